theorem s_X12_message {G : GE} (hst : (ge_l G).stackTraces = false) {y c : Nat} {D : UT} {R : Nat → Prop} {g : GT} (I : MI y D c R g) {p0 : Int32} {p1 : Int32} : ex_M G 2 0 0 my_X12_message [.ref y, .int p0, .int p1] g (SM y D c R pI) := by
  refine ex_M_of ok_X12_message cw_X12_message rfl hst (Nat.le_of_ble_eq_true rfl) ?_
  refine ex_aload_n ok_X12_message (mi 0 rfl) rfl ?_
  refine ex_iload_n ok_X12_message (mi 1 rfl) rfl ?_
  refine ex_iconst ok_X12_message (mi 2 rfl) ?_
  refine ex_aload_n ok_X12_message (mi 3 rfl) rfl ?_
  obtain ⟨A1, hAA1, haA1, h0A1⟩ := id I
  refine ex_getI ok_X12_message (mi 4 rfl) rfl rfl (fk (MI_s I) 0 rfl) ?_
  refine ex_top (w := nI A1) haA1 ?_
  refine ex_iconst ok_X12_message (mi 5 rfl) ?_
  refine ex_isub ok_X12_message (mi 6 rfl) ?_
  refine sf_Sp (As := [_, _, _]) ok_X12_message (mi 7 rfl) rfl (s_in hst) rfl rfl rfl (by decide) (Nat.le_of_ble_eq_true rfl) (by decide) (fun z2 p3 => ?_)
  obtain ⟨b4, rfl, hb4⟩ := p3
  refine ex_if_eq (tgt := 29) ok_X12_message (mi 8 rfl) rfl (fun h12 => ?_) (fun h12 => ?_)
  · skip
    obtain rfl : b4 = nI 0 := h12.trans (by decide)
    refine ex_iconst ok_X12_message (mi 16 rfl) ?_
    refine ex_iconst ok_X12_message (mi 17 rfl) ?_
    refine ex_iconst ok_X12_message (mi 18 rfl) ?_
    refine sm_V (As := [_, _, _]) ok_X12_message (mi 19 rfl) rfl (s_ref hst (MI_s I)) rfl (fk (MI_s I) 0 rfl) rfl rfl (by decide) (by decide) (Nat.le_of_ble_eq_true rfl) (by decide) RF_no (fun z5 g9 p6 => ?_)
    obtain ⟨b7, v8, eb7, egb7, hrb7⟩ := p6
    cases eb7
    subst egb7
    have J10 := MI_I (f := 1200) (v := v8) I (by decide)
    have haA1' : gx_I (px_I g 1200 y v8) 1248 y = nI A1 := by rw [gxI_I, if_neg (fun k => absurd k.1 (by decide))]; exact haA1
    have h0A1' := MC_I (f := 1200) (v := v8) h0A1
    obtain rfl : b7 = nI 1 := hrb7.elim (fun q => absurd (show (nI 0 : Int32) = 0 by decide) q.2.1) (fun q => q.1.trans (by decide))
    refine ex_if_eq (tgt := 40) ok_X12_message (mi 20 rfl) rfl (fun hn => absurd hn (by decide)) (fun _ => ?_)
    refine ex_iconst ok_X12_message (mi 21 rfl) ?_
    refine ex_iret ok_X12_message (mi 22 rfl) rfl ?_
    exact ⟨_, rfl, ⟨_, rfl⟩, J10⟩
  · skip
    obtain ⟨eb4, lb4, ub4⟩ := hb4.resolve_left (fun q => h12 q.1)
    obtain rfl : b4 = nI 1 := eb4.trans (by decide)
    obtain ⟨a11, ha11, rfl⟩ := in_m1 (n := A1) lb4 ub4 (by decide) (by omega)
    refine ex_iload_n ok_X12_message (mi 9 rfl) rfl ?_
    refine ex_iconst ok_X12_message (mi 10 rfl) ?_
    refine ex_bipush ok_X12_message (mi 11 rfl) ?_
    refine sf_Sp (As := [_, _, _]) ok_X12_message (mi 12 rfl) rfl (s_in hst) rfl rfl rfl (by decide) (Nat.le_of_ble_eq_true rfl) (by decide) (fun z12 p13 => ?_)
    obtain ⟨b14, rfl, hb14⟩ := p13
    refine ex_if_eq (tgt := 29) ok_X12_message (mi 13 rfl) rfl (fun h22 => ?_) (fun h22 => ?_)
    · skip
      obtain rfl : b14 = nI 0 := h22.trans (by decide)
      refine ex_iconst ok_X12_message (mi 16 rfl) ?_
      refine ex_iconst ok_X12_message (mi 17 rfl) ?_
      refine ex_iconst ok_X12_message (mi 18 rfl) ?_
      refine sm_V (As := [_, _, _]) ok_X12_message (mi 19 rfl) rfl (s_ref hst (MI_s I)) rfl (fk (MI_s I) 0 rfl) rfl rfl (by decide) (by decide) (Nat.le_of_ble_eq_true rfl) (by decide) RF_no (fun z15 g19 p16 => ?_)
      obtain ⟨b17, v18, eb17, egb17, hrb17⟩ := p16
      cases eb17
      subst egb17
      have J20 := MI_I (f := 1200) (v := v18) I (by decide)
      have haA1' : gx_I (px_I g 1200 y v18) 1248 y = nI A1 := by rw [gxI_I, if_neg (fun k => absurd k.1 (by decide))]; exact haA1
      have h0A1' := MC_I (f := 1200) (v := v18) h0A1
      obtain rfl : b17 = nI 1 := hrb17.elim (fun q => absurd (show (nI 0 : Int32) = 0 by decide) q.2.1) (fun q => q.1.trans (by decide))
      refine ex_if_eq (tgt := 40) ok_X12_message (mi 20 rfl) rfl (fun hn => absurd hn (by decide)) (fun _ => ?_)
      refine ex_iconst ok_X12_message (mi 21 rfl) ?_
      refine ex_iret ok_X12_message (mi 22 rfl) rfl ?_
      exact ⟨_, rfl, ⟨_, rfl⟩, J20⟩
    · skip
      obtain ⟨eb14, lb14, ub14⟩ := hb14.resolve_left (fun q => h22 q.1)
      obtain rfl : b14 = nI 1 := eb14.trans (by decide)
      obtain ⟨a21, ha21, rfl⟩ := in_n (n := 8) lb14 ub14 (by decide) rfl (by decide)
      rcases (by omega : a21 = 0 ∨ a21 = 1 ∨ a21 = 2 ∨ a21 = 3 ∨ a21 = 4 ∨ a21 = 5 ∨ a21 = 6 ∨ a21 = 7 ∨ a21 = 8) with rfl | rfl | rfl | rfl | rfl | rfl | rfl | rfl | rfl
      · skip
        refine ex_iconst ok_X12_message (mi 14 rfl) ?_
        refine ex_goto (tgt := 30) ok_X12_message (mi 15 rfl) rfl ?_
        refine ex_iconst ok_X12_message (mi 17 rfl) ?_
        refine ex_iconst ok_X12_message (mi 18 rfl) ?_
        refine sm_V (As := [_, _, _]) ok_X12_message (mi 19 rfl) rfl (s_ref hst (MI_s I)) rfl (fk (MI_s I) 0 rfl) rfl rfl (by decide) (by decide) (Nat.le_of_ble_eq_true rfl) (by decide) RF_no (fun z22 g26 p23 => ?_)
        obtain ⟨b24, v25, eb24, egb24, hrb24⟩ := p23
        cases eb24
        subst egb24
        have J27 := MI_I (f := 1200) (v := v25) I (by decide)
        have haA1' : gx_I (px_I g 1200 y v25) 1248 y = nI A1 := by rw [gxI_I, if_neg (fun k => absurd k.1 (by decide))]; exact haA1
        have h0A1' := MC_I (f := 1200) (v := v25) h0A1
        refine ex_if_eq (tgt := 40) ok_X12_message (mi 20 rfl) rfl (fun h35 => ?_) (fun h35 => ?_)
        · skip
          obtain rfl : b24 = nI 0 := h35.trans (by decide)
          have q28 := hrb24.resolve_right (fun q => absurd q.1 (by decide))
          refine ex_aload_n ok_X12_message (mi 23 rfl) rfl ?_
          refine ex_getRx ok_X12_message (mi 24 rfl) rfl rfl (fk (MI_s J27) 0 rfl) (fr (MI_s J27) 47 rfl) (fk (MI_s J27) 48 rfl) (by decide) ?_
          refine ex_iload_n ok_X12_message (mi 25 rfl) rfl ?_
          refine sm_iald ok_X12_message (mi 26 rfl) (fk (MI_s J27) 48 rfl) (fn (MI_s J27) 48 rfl) rfl (by omega) (by decide) ?_
          obtain ⟨v29, hv29, ev29⟩ := vp_in_of (n := 402) (MI_bd J27 14 rfl (i := a11) (by omega)) (by decide)
          refine ex_top (w := nI v29) ev29 ?_
          refine ex_istore_n ok_X12_message (mi 27 rfl) ?_
          refine ex_iload_n ok_X12_message (mi 28 rfl) rfl ?_
          refine ex_if_ne (tgt := 60) ok_X12_message (mi 29 rfl) rfl (fun hn => absurd (by decide) hn) (fun _ => ?_)
          refine ex_aload_n ok_X12_message (mi 30 rfl) rfl ?_
          refine ex_getRx ok_X12_message (mi 31 rfl) rfl rfl (fk (MI_s J27) 0 rfl) (fr (MI_s J27) 49 rfl) (fk (MI_s J27) 50 rfl) (by decide) ?_
          refine ex_iload_n ok_X12_message (mi 32 rfl) rfl ?_
          refine sm_iald ok_X12_message (mi 33 rfl) (fk (MI_s J27) 50 rfl) (fn (MI_s J27) 50 rfl) rfl (by omega) (by decide) ?_
          refine ex_gen (fun w30 => ?_)
          refine ex_goto (tgt := 137) ok_X12_message (mi 34 rfl) rfl ?_
          refine ex_iret ok_X12_message (mi 83 rfl) rfl ?_
          exact ⟨_, rfl, ⟨_, rfl⟩, J27⟩
        · skip
          refine ex_iconst ok_X12_message (mi 21 rfl) ?_
          refine ex_iret ok_X12_message (mi 22 rfl) rfl ?_
          exact ⟨_, rfl, ⟨_, rfl⟩, J27⟩
      · skip
        refine ex_iconst ok_X12_message (mi 14 rfl) ?_
        refine ex_goto (tgt := 30) ok_X12_message (mi 15 rfl) rfl ?_
        refine ex_iconst ok_X12_message (mi 17 rfl) ?_
        refine ex_iconst ok_X12_message (mi 18 rfl) ?_
        refine sm_V (As := [_, _, _]) ok_X12_message (mi 19 rfl) rfl (s_ref hst (MI_s I)) rfl (fk (MI_s I) 0 rfl) rfl rfl (by decide) (by decide) (Nat.le_of_ble_eq_true rfl) (by decide) RF_no (fun z31 g35 p32 => ?_)
        obtain ⟨b33, v34, eb33, egb33, hrb33⟩ := p32
        cases eb33
        subst egb33
        have J36 := MI_I (f := 1200) (v := v34) I (by decide)
        have haA1' : gx_I (px_I g 1200 y v34) 1248 y = nI A1 := by rw [gxI_I, if_neg (fun k => absurd k.1 (by decide))]; exact haA1
        have h0A1' := MC_I (f := 1200) (v := v34) h0A1
        refine ex_if_eq (tgt := 40) ok_X12_message (mi 20 rfl) rfl (fun h35 => ?_) (fun h35 => ?_)
        · skip
          obtain rfl : b33 = nI 0 := h35.trans (by decide)
          have q37 := hrb33.resolve_right (fun q => absurd q.1 (by decide))
          refine ex_aload_n ok_X12_message (mi 23 rfl) rfl ?_
          refine ex_getRx ok_X12_message (mi 24 rfl) rfl rfl (fk (MI_s J36) 0 rfl) (fr (MI_s J36) 47 rfl) (fk (MI_s J36) 48 rfl) (by decide) ?_
          refine ex_iload_n ok_X12_message (mi 25 rfl) rfl ?_
          refine sm_iald ok_X12_message (mi 26 rfl) (fk (MI_s J36) 48 rfl) (fn (MI_s J36) 48 rfl) rfl (by omega) (by decide) ?_
          obtain ⟨v38, hv38, ev38⟩ := vp_in_of (n := 402) (MI_bd J36 14 rfl (i := a11) (by omega)) (by decide)
          refine ex_top (w := nI v38) ev38 ?_
          refine ex_istore_n ok_X12_message (mi 27 rfl) ?_
          refine ex_iload_n ok_X12_message (mi 28 rfl) rfl ?_
          refine ex_if_ne (tgt := 60) ok_X12_message (mi 29 rfl) rfl (fun _ => ?_) (fun hn => absurd hn (by decide))
          refine ex_iload_n ok_X12_message (mi 35 rfl) rfl ?_
          refine ex_iconst ok_X12_message (mi 36 rfl) ?_
          refine ex_icmp_ne (tgt := 74) ok_X12_message (mi 37 rfl) rfl (fun hn => absurd (by decide) hn) (fun _ => ?_)
          refine ex_aload_n ok_X12_message (mi 38 rfl) rfl ?_
          refine ex_getRx ok_X12_message (mi 39 rfl) rfl rfl (fk (MI_s J36) 0 rfl) (fr (MI_s J36) 50 rfl) (fk (MI_s J36) 51 rfl) (by decide) ?_
          refine ex_iload_n ok_X12_message (mi 40 rfl) rfl ?_
          refine sm_iald ok_X12_message (mi 41 rfl) (fk (MI_s J36) 51 rfl) (fn (MI_s J36) 51 rfl) rfl (by omega) (by decide) ?_
          refine ex_gen (fun w39 => ?_)
          refine ex_goto (tgt := 137) ok_X12_message (mi 42 rfl) rfl ?_
          refine ex_iret ok_X12_message (mi 83 rfl) rfl ?_
          exact ⟨_, rfl, ⟨_, rfl⟩, J36⟩
        · skip
          refine ex_iconst ok_X12_message (mi 21 rfl) ?_
          refine ex_iret ok_X12_message (mi 22 rfl) rfl ?_
          exact ⟨_, rfl, ⟨_, rfl⟩, J36⟩
      · skip
        refine ex_iconst ok_X12_message (mi 14 rfl) ?_
        refine ex_goto (tgt := 30) ok_X12_message (mi 15 rfl) rfl ?_
        refine ex_iconst ok_X12_message (mi 17 rfl) ?_
        refine ex_iconst ok_X12_message (mi 18 rfl) ?_
        refine sm_V (As := [_, _, _]) ok_X12_message (mi 19 rfl) rfl (s_ref hst (MI_s I)) rfl (fk (MI_s I) 0 rfl) rfl rfl (by decide) (by decide) (Nat.le_of_ble_eq_true rfl) (by decide) RF_no (fun z40 g44 p41 => ?_)
        obtain ⟨b42, v43, eb42, egb42, hrb42⟩ := p41
        cases eb42
        subst egb42
        have J45 := MI_I (f := 1200) (v := v43) I (by decide)
        have haA1' : gx_I (px_I g 1200 y v43) 1248 y = nI A1 := by rw [gxI_I, if_neg (fun k => absurd k.1 (by decide))]; exact haA1
        have h0A1' := MC_I (f := 1200) (v := v43) h0A1
        refine ex_if_eq (tgt := 40) ok_X12_message (mi 20 rfl) rfl (fun h35 => ?_) (fun h35 => ?_)
        · skip
          obtain rfl : b42 = nI 0 := h35.trans (by decide)
          have q46 := hrb42.resolve_right (fun q => absurd q.1 (by decide))
          refine ex_aload_n ok_X12_message (mi 23 rfl) rfl ?_
          refine ex_getRx ok_X12_message (mi 24 rfl) rfl rfl (fk (MI_s J45) 0 rfl) (fr (MI_s J45) 47 rfl) (fk (MI_s J45) 48 rfl) (by decide) ?_
          refine ex_iload_n ok_X12_message (mi 25 rfl) rfl ?_
          refine sm_iald ok_X12_message (mi 26 rfl) (fk (MI_s J45) 48 rfl) (fn (MI_s J45) 48 rfl) rfl (by omega) (by decide) ?_
          obtain ⟨v47, hv47, ev47⟩ := vp_in_of (n := 402) (MI_bd J45 14 rfl (i := a11) (by omega)) (by decide)
          refine ex_top (w := nI v47) ev47 ?_
          refine ex_istore_n ok_X12_message (mi 27 rfl) ?_
          refine ex_iload_n ok_X12_message (mi 28 rfl) rfl ?_
          refine ex_if_ne (tgt := 60) ok_X12_message (mi 29 rfl) rfl (fun _ => ?_) (fun hn => absurd hn (by decide))
          refine ex_iload_n ok_X12_message (mi 35 rfl) rfl ?_
          refine ex_iconst ok_X12_message (mi 36 rfl) ?_
          refine ex_icmp_ne (tgt := 74) ok_X12_message (mi 37 rfl) rfl (fun _ => ?_) (fun hn => absurd hn (by decide))
          refine ex_iload_n ok_X12_message (mi 43 rfl) rfl ?_
          refine ex_iconst ok_X12_message (mi 44 rfl) ?_
          refine ex_icmp_ne (tgt := 88) ok_X12_message (mi 45 rfl) rfl (fun hn => absurd (by decide) hn) (fun _ => ?_)
          refine ex_aload_n ok_X12_message (mi 46 rfl) rfl ?_
          refine ex_getRx ok_X12_message (mi 47 rfl) rfl rfl (fk (MI_s J45) 0 rfl) (fr (MI_s J45) 51 rfl) (fk (MI_s J45) 52 rfl) (by decide) ?_
          refine ex_iload_n ok_X12_message (mi 48 rfl) rfl ?_
          refine sm_iald ok_X12_message (mi 49 rfl) (fk (MI_s J45) 52 rfl) (fn (MI_s J45) 52 rfl) rfl (by omega) (by decide) ?_
          refine ex_gen (fun w48 => ?_)
          refine ex_goto (tgt := 137) ok_X12_message (mi 50 rfl) rfl ?_
          refine ex_iret ok_X12_message (mi 83 rfl) rfl ?_
          exact ⟨_, rfl, ⟨_, rfl⟩, J45⟩
        · skip
          refine ex_iconst ok_X12_message (mi 21 rfl) ?_
          refine ex_iret ok_X12_message (mi 22 rfl) rfl ?_
          exact ⟨_, rfl, ⟨_, rfl⟩, J45⟩
      · skip
        refine ex_iconst ok_X12_message (mi 14 rfl) ?_
        refine ex_goto (tgt := 30) ok_X12_message (mi 15 rfl) rfl ?_
        refine ex_iconst ok_X12_message (mi 17 rfl) ?_
        refine ex_iconst ok_X12_message (mi 18 rfl) ?_
        refine sm_V (As := [_, _, _]) ok_X12_message (mi 19 rfl) rfl (s_ref hst (MI_s I)) rfl (fk (MI_s I) 0 rfl) rfl rfl (by decide) (by decide) (Nat.le_of_ble_eq_true rfl) (by decide) RF_no (fun z49 g53 p50 => ?_)
        obtain ⟨b51, v52, eb51, egb51, hrb51⟩ := p50
        cases eb51
        subst egb51
        have J54 := MI_I (f := 1200) (v := v52) I (by decide)
        have haA1' : gx_I (px_I g 1200 y v52) 1248 y = nI A1 := by rw [gxI_I, if_neg (fun k => absurd k.1 (by decide))]; exact haA1
        have h0A1' := MC_I (f := 1200) (v := v52) h0A1
        refine ex_if_eq (tgt := 40) ok_X12_message (mi 20 rfl) rfl (fun h35 => ?_) (fun h35 => ?_)
        · skip
          obtain rfl : b51 = nI 0 := h35.trans (by decide)
          have q55 := hrb51.resolve_right (fun q => absurd q.1 (by decide))
          refine ex_aload_n ok_X12_message (mi 23 rfl) rfl ?_
          refine ex_getRx ok_X12_message (mi 24 rfl) rfl rfl (fk (MI_s J54) 0 rfl) (fr (MI_s J54) 47 rfl) (fk (MI_s J54) 48 rfl) (by decide) ?_
          refine ex_iload_n ok_X12_message (mi 25 rfl) rfl ?_
          refine sm_iald ok_X12_message (mi 26 rfl) (fk (MI_s J54) 48 rfl) (fn (MI_s J54) 48 rfl) rfl (by omega) (by decide) ?_
          obtain ⟨v56, hv56, ev56⟩ := vp_in_of (n := 402) (MI_bd J54 14 rfl (i := a11) (by omega)) (by decide)
          refine ex_top (w := nI v56) ev56 ?_
          refine ex_istore_n ok_X12_message (mi 27 rfl) ?_
          refine ex_iload_n ok_X12_message (mi 28 rfl) rfl ?_
          refine ex_if_ne (tgt := 60) ok_X12_message (mi 29 rfl) rfl (fun _ => ?_) (fun hn => absurd hn (by decide))
          refine ex_iload_n ok_X12_message (mi 35 rfl) rfl ?_
          refine ex_iconst ok_X12_message (mi 36 rfl) ?_
          refine ex_icmp_ne (tgt := 74) ok_X12_message (mi 37 rfl) rfl (fun _ => ?_) (fun hn => absurd hn (by decide))
          refine ex_iload_n ok_X12_message (mi 43 rfl) rfl ?_
          refine ex_iconst ok_X12_message (mi 44 rfl) ?_
          refine ex_icmp_ne (tgt := 88) ok_X12_message (mi 45 rfl) rfl (fun _ => ?_) (fun hn => absurd hn (by decide))
          refine ex_iload_n ok_X12_message (mi 51 rfl) rfl ?_
          refine ex_bipush ok_X12_message (mi 52 rfl) ?_
          refine ex_icmp_ge (tgt := 109) ok_X12_message (mi 53 rfl) rfl (fun hn => absurd hn (by decide)) (fun _ => ?_)
          refine ex_aload_n ok_X12_message (mi 54 rfl) rfl ?_
          refine ex_getRx ok_X12_message (mi 55 rfl) rfl rfl (fk (MI_s J54) 0 rfl) (fr (MI_s J54) 52 rfl) (fk (MI_s J54) 53 rfl) (by decide) ?_
          refine ex_iconst ok_X12_message (mi 56 rfl) ?_
          refine ex_iload_n ok_X12_message (mi 57 rfl) rfl ?_
          refine ex_imul ok_X12_message (mi 58 rfl) ?_
          refine ex_top (w := (nI (3 * v56))) (nI_mulc rfl) ?_
          refine ex_iload_n ok_X12_message (mi 59 rfl) rfl ?_
          refine ex_iadd ok_X12_message (mi 60 rfl) ?_
          refine ex_top (w := (nI (3 * v56 + 3))) (nI_add _ 3) ?_
          refine ex_iconst ok_X12_message (mi 61 rfl) ?_
          refine ex_isub ok_X12_message (mi 62 rfl) ?_
          refine ex_top (w := (nI (3 * v56 + 3 - 3))) (nI_subc (a := 3 * v56 + 3) (b := 3) rfl (by omega)) ?_
          refine sm_iald ok_X12_message (mi 63 rfl) (fk (MI_s J54) 53 rfl) (fn (MI_s J54) 53 rfl) rfl (by omega) (by decide) ?_
          refine ex_gen (fun w57 => ?_)
          refine ex_goto (tgt := 137) ok_X12_message (mi 64 rfl) rfl ?_
          refine ex_iret ok_X12_message (mi 83 rfl) rfl ?_
          exact ⟨_, rfl, ⟨_, rfl⟩, J54⟩
        · skip
          refine ex_iconst ok_X12_message (mi 21 rfl) ?_
          refine ex_iret ok_X12_message (mi 22 rfl) rfl ?_
          exact ⟨_, rfl, ⟨_, rfl⟩, J54⟩
      · skip
        refine ex_iconst ok_X12_message (mi 14 rfl) ?_
        refine ex_goto (tgt := 30) ok_X12_message (mi 15 rfl) rfl ?_
        refine ex_iconst ok_X12_message (mi 17 rfl) ?_
        refine ex_iconst ok_X12_message (mi 18 rfl) ?_
        refine sm_V (As := [_, _, _]) ok_X12_message (mi 19 rfl) rfl (s_ref hst (MI_s I)) rfl (fk (MI_s I) 0 rfl) rfl rfl (by decide) (by decide) (Nat.le_of_ble_eq_true rfl) (by decide) RF_no (fun z58 g62 p59 => ?_)
        obtain ⟨b60, v61, eb60, egb60, hrb60⟩ := p59
        cases eb60
        subst egb60
        have J63 := MI_I (f := 1200) (v := v61) I (by decide)
        have haA1' : gx_I (px_I g 1200 y v61) 1248 y = nI A1 := by rw [gxI_I, if_neg (fun k => absurd k.1 (by decide))]; exact haA1
        have h0A1' := MC_I (f := 1200) (v := v61) h0A1
        refine ex_if_eq (tgt := 40) ok_X12_message (mi 20 rfl) rfl (fun h35 => ?_) (fun h35 => ?_)
        · skip
          obtain rfl : b60 = nI 0 := h35.trans (by decide)
          have q64 := hrb60.resolve_right (fun q => absurd q.1 (by decide))
          refine ex_aload_n ok_X12_message (mi 23 rfl) rfl ?_
          refine ex_getRx ok_X12_message (mi 24 rfl) rfl rfl (fk (MI_s J63) 0 rfl) (fr (MI_s J63) 47 rfl) (fk (MI_s J63) 48 rfl) (by decide) ?_
          refine ex_iload_n ok_X12_message (mi 25 rfl) rfl ?_
          refine sm_iald ok_X12_message (mi 26 rfl) (fk (MI_s J63) 48 rfl) (fn (MI_s J63) 48 rfl) rfl (by omega) (by decide) ?_
          obtain ⟨v65, hv65, ev65⟩ := vp_in_of (n := 402) (MI_bd J63 14 rfl (i := a11) (by omega)) (by decide)
          refine ex_top (w := nI v65) ev65 ?_
          refine ex_istore_n ok_X12_message (mi 27 rfl) ?_
          refine ex_iload_n ok_X12_message (mi 28 rfl) rfl ?_
          refine ex_if_ne (tgt := 60) ok_X12_message (mi 29 rfl) rfl (fun _ => ?_) (fun hn => absurd hn (by decide))
          refine ex_iload_n ok_X12_message (mi 35 rfl) rfl ?_
          refine ex_iconst ok_X12_message (mi 36 rfl) ?_
          refine ex_icmp_ne (tgt := 74) ok_X12_message (mi 37 rfl) rfl (fun _ => ?_) (fun hn => absurd hn (by decide))
          refine ex_iload_n ok_X12_message (mi 43 rfl) rfl ?_
          refine ex_iconst ok_X12_message (mi 44 rfl) ?_
          refine ex_icmp_ne (tgt := 88) ok_X12_message (mi 45 rfl) rfl (fun _ => ?_) (fun hn => absurd hn (by decide))
          refine ex_iload_n ok_X12_message (mi 51 rfl) rfl ?_
          refine ex_bipush ok_X12_message (mi 52 rfl) ?_
          refine ex_icmp_ge (tgt := 109) ok_X12_message (mi 53 rfl) rfl (fun hn => absurd hn (by decide)) (fun _ => ?_)
          refine ex_aload_n ok_X12_message (mi 54 rfl) rfl ?_
          refine ex_getRx ok_X12_message (mi 55 rfl) rfl rfl (fk (MI_s J63) 0 rfl) (fr (MI_s J63) 52 rfl) (fk (MI_s J63) 53 rfl) (by decide) ?_
          refine ex_iconst ok_X12_message (mi 56 rfl) ?_
          refine ex_iload_n ok_X12_message (mi 57 rfl) rfl ?_
          refine ex_imul ok_X12_message (mi 58 rfl) ?_
          refine ex_top (w := (nI (3 * v65))) (nI_mulc rfl) ?_
          refine ex_iload_n ok_X12_message (mi 59 rfl) rfl ?_
          refine ex_iadd ok_X12_message (mi 60 rfl) ?_
          refine ex_top (w := (nI (3 * v65 + 4))) (nI_add _ 4) ?_
          refine ex_iconst ok_X12_message (mi 61 rfl) ?_
          refine ex_isub ok_X12_message (mi 62 rfl) ?_
          refine ex_top (w := (nI (3 * v65 + 4 - 3))) (nI_subc (a := 3 * v65 + 4) (b := 3) rfl (by omega)) ?_
          refine sm_iald ok_X12_message (mi 63 rfl) (fk (MI_s J63) 53 rfl) (fn (MI_s J63) 53 rfl) rfl (by omega) (by decide) ?_
          refine ex_gen (fun w66 => ?_)
          refine ex_goto (tgt := 137) ok_X12_message (mi 64 rfl) rfl ?_
          refine ex_iret ok_X12_message (mi 83 rfl) rfl ?_
          exact ⟨_, rfl, ⟨_, rfl⟩, J63⟩
        · skip
          refine ex_iconst ok_X12_message (mi 21 rfl) ?_
          refine ex_iret ok_X12_message (mi 22 rfl) rfl ?_
          exact ⟨_, rfl, ⟨_, rfl⟩, J63⟩
      · skip
        refine ex_iconst ok_X12_message (mi 14 rfl) ?_
        refine ex_goto (tgt := 30) ok_X12_message (mi 15 rfl) rfl ?_
        refine ex_iconst ok_X12_message (mi 17 rfl) ?_
        refine ex_iconst ok_X12_message (mi 18 rfl) ?_
        refine sm_V (As := [_, _, _]) ok_X12_message (mi 19 rfl) rfl (s_ref hst (MI_s I)) rfl (fk (MI_s I) 0 rfl) rfl rfl (by decide) (by decide) (Nat.le_of_ble_eq_true rfl) (by decide) RF_no (fun z67 g71 p68 => ?_)
        obtain ⟨b69, v70, eb69, egb69, hrb69⟩ := p68
        cases eb69
        subst egb69
        have J72 := MI_I (f := 1200) (v := v70) I (by decide)
        have haA1' : gx_I (px_I g 1200 y v70) 1248 y = nI A1 := by rw [gxI_I, if_neg (fun k => absurd k.1 (by decide))]; exact haA1
        have h0A1' := MC_I (f := 1200) (v := v70) h0A1
        refine ex_if_eq (tgt := 40) ok_X12_message (mi 20 rfl) rfl (fun h35 => ?_) (fun h35 => ?_)
        · skip
          obtain rfl : b69 = nI 0 := h35.trans (by decide)
          have q73 := hrb69.resolve_right (fun q => absurd q.1 (by decide))
          refine ex_aload_n ok_X12_message (mi 23 rfl) rfl ?_
          refine ex_getRx ok_X12_message (mi 24 rfl) rfl rfl (fk (MI_s J72) 0 rfl) (fr (MI_s J72) 47 rfl) (fk (MI_s J72) 48 rfl) (by decide) ?_
          refine ex_iload_n ok_X12_message (mi 25 rfl) rfl ?_
          refine sm_iald ok_X12_message (mi 26 rfl) (fk (MI_s J72) 48 rfl) (fn (MI_s J72) 48 rfl) rfl (by omega) (by decide) ?_
          obtain ⟨v74, hv74, ev74⟩ := vp_in_of (n := 402) (MI_bd J72 14 rfl (i := a11) (by omega)) (by decide)
          refine ex_top (w := nI v74) ev74 ?_
          refine ex_istore_n ok_X12_message (mi 27 rfl) ?_
          refine ex_iload_n ok_X12_message (mi 28 rfl) rfl ?_
          refine ex_if_ne (tgt := 60) ok_X12_message (mi 29 rfl) rfl (fun _ => ?_) (fun hn => absurd hn (by decide))
          refine ex_iload_n ok_X12_message (mi 35 rfl) rfl ?_
          refine ex_iconst ok_X12_message (mi 36 rfl) ?_
          refine ex_icmp_ne (tgt := 74) ok_X12_message (mi 37 rfl) rfl (fun _ => ?_) (fun hn => absurd hn (by decide))
          refine ex_iload_n ok_X12_message (mi 43 rfl) rfl ?_
          refine ex_iconst ok_X12_message (mi 44 rfl) ?_
          refine ex_icmp_ne (tgt := 88) ok_X12_message (mi 45 rfl) rfl (fun _ => ?_) (fun hn => absurd hn (by decide))
          refine ex_iload_n ok_X12_message (mi 51 rfl) rfl ?_
          refine ex_bipush ok_X12_message (mi 52 rfl) ?_
          refine ex_icmp_ge (tgt := 109) ok_X12_message (mi 53 rfl) rfl (fun hn => absurd hn (by decide)) (fun _ => ?_)
          refine ex_aload_n ok_X12_message (mi 54 rfl) rfl ?_
          refine ex_getRx ok_X12_message (mi 55 rfl) rfl rfl (fk (MI_s J72) 0 rfl) (fr (MI_s J72) 52 rfl) (fk (MI_s J72) 53 rfl) (by decide) ?_
          refine ex_iconst ok_X12_message (mi 56 rfl) ?_
          refine ex_iload_n ok_X12_message (mi 57 rfl) rfl ?_
          refine ex_imul ok_X12_message (mi 58 rfl) ?_
          refine ex_top (w := (nI (3 * v74))) (nI_mulc rfl) ?_
          refine ex_iload_n ok_X12_message (mi 59 rfl) rfl ?_
          refine ex_iadd ok_X12_message (mi 60 rfl) ?_
          refine ex_top (w := (nI (3 * v74 + 5))) (nI_add _ 5) ?_
          refine ex_iconst ok_X12_message (mi 61 rfl) ?_
          refine ex_isub ok_X12_message (mi 62 rfl) ?_
          refine ex_top (w := (nI (3 * v74 + 5 - 3))) (nI_subc (a := 3 * v74 + 5) (b := 3) rfl (by omega)) ?_
          refine sm_iald ok_X12_message (mi 63 rfl) (fk (MI_s J72) 53 rfl) (fn (MI_s J72) 53 rfl) rfl (by omega) (by decide) ?_
          refine ex_gen (fun w75 => ?_)
          refine ex_goto (tgt := 137) ok_X12_message (mi 64 rfl) rfl ?_
          refine ex_iret ok_X12_message (mi 83 rfl) rfl ?_
          exact ⟨_, rfl, ⟨_, rfl⟩, J72⟩
        · skip
          refine ex_iconst ok_X12_message (mi 21 rfl) ?_
          refine ex_iret ok_X12_message (mi 22 rfl) rfl ?_
          exact ⟨_, rfl, ⟨_, rfl⟩, J72⟩
      · skip
        refine ex_iconst ok_X12_message (mi 14 rfl) ?_
        refine ex_goto (tgt := 30) ok_X12_message (mi 15 rfl) rfl ?_
        refine ex_iconst ok_X12_message (mi 17 rfl) ?_
        refine ex_iconst ok_X12_message (mi 18 rfl) ?_
        refine sm_V (As := [_, _, _]) ok_X12_message (mi 19 rfl) rfl (s_ref hst (MI_s I)) rfl (fk (MI_s I) 0 rfl) rfl rfl (by decide) (by decide) (Nat.le_of_ble_eq_true rfl) (by decide) RF_no (fun z76 g80 p77 => ?_)
        obtain ⟨b78, v79, eb78, egb78, hrb78⟩ := p77
        cases eb78
        subst egb78
        have J81 := MI_I (f := 1200) (v := v79) I (by decide)
        have haA1' : gx_I (px_I g 1200 y v79) 1248 y = nI A1 := by rw [gxI_I, if_neg (fun k => absurd k.1 (by decide))]; exact haA1
        have h0A1' := MC_I (f := 1200) (v := v79) h0A1
        refine ex_if_eq (tgt := 40) ok_X12_message (mi 20 rfl) rfl (fun h35 => ?_) (fun h35 => ?_)
        · skip
          obtain rfl : b78 = nI 0 := h35.trans (by decide)
          have q82 := hrb78.resolve_right (fun q => absurd q.1 (by decide))
          refine ex_aload_n ok_X12_message (mi 23 rfl) rfl ?_
          refine ex_getRx ok_X12_message (mi 24 rfl) rfl rfl (fk (MI_s J81) 0 rfl) (fr (MI_s J81) 47 rfl) (fk (MI_s J81) 48 rfl) (by decide) ?_
          refine ex_iload_n ok_X12_message (mi 25 rfl) rfl ?_
          refine sm_iald ok_X12_message (mi 26 rfl) (fk (MI_s J81) 48 rfl) (fn (MI_s J81) 48 rfl) rfl (by omega) (by decide) ?_
          obtain ⟨v83, hv83, ev83⟩ := vp_in_of (n := 402) (MI_bd J81 14 rfl (i := a11) (by omega)) (by decide)
          refine ex_top (w := nI v83) ev83 ?_
          refine ex_istore_n ok_X12_message (mi 27 rfl) ?_
          refine ex_iload_n ok_X12_message (mi 28 rfl) rfl ?_
          refine ex_if_ne (tgt := 60) ok_X12_message (mi 29 rfl) rfl (fun _ => ?_) (fun hn => absurd hn (by decide))
          refine ex_iload_n ok_X12_message (mi 35 rfl) rfl ?_
          refine ex_iconst ok_X12_message (mi 36 rfl) ?_
          refine ex_icmp_ne (tgt := 74) ok_X12_message (mi 37 rfl) rfl (fun _ => ?_) (fun hn => absurd hn (by decide))
          refine ex_iload_n ok_X12_message (mi 43 rfl) rfl ?_
          refine ex_iconst ok_X12_message (mi 44 rfl) ?_
          refine ex_icmp_ne (tgt := 88) ok_X12_message (mi 45 rfl) rfl (fun _ => ?_) (fun hn => absurd hn (by decide))
          refine ex_iload_n ok_X12_message (mi 51 rfl) rfl ?_
          refine ex_bipush ok_X12_message (mi 52 rfl) ?_
          refine ex_icmp_ge (tgt := 109) ok_X12_message (mi 53 rfl) rfl (fun _ => ?_) (fun hn => absurd (by decide) hn)
          refine ex_iload_n ok_X12_message (mi 65 rfl) rfl ?_
          refine ex_bipush ok_X12_message (mi 66 rfl) ?_
          refine ex_icmp_ne (tgt := 124) ok_X12_message (mi 67 rfl) rfl (fun hn => absurd (by decide) hn) (fun _ => ?_)
          refine ex_aload_n ok_X12_message (mi 68 rfl) rfl ?_
          refine ex_getRx ok_X12_message (mi 69 rfl) rfl rfl (fk (MI_s J81) 0 rfl) (fr (MI_s J81) 53 rfl) (fk (MI_s J81) 54 rfl) (by decide) ?_
          refine ex_iload_n ok_X12_message (mi 70 rfl) rfl ?_
          refine sm_iald ok_X12_message (mi 71 rfl) (fk (MI_s J81) 54 rfl) (fn (MI_s J81) 54 rfl) rfl (by omega) (by decide) ?_
          refine ex_gen (fun w84 => ?_)
          refine ex_goto (tgt := 137) ok_X12_message (mi 72 rfl) rfl ?_
          refine ex_iret ok_X12_message (mi 83 rfl) rfl ?_
          exact ⟨_, rfl, ⟨_, rfl⟩, J81⟩
        · skip
          refine ex_iconst ok_X12_message (mi 21 rfl) ?_
          refine ex_iret ok_X12_message (mi 22 rfl) rfl ?_
          exact ⟨_, rfl, ⟨_, rfl⟩, J81⟩
      · skip
        refine ex_iconst ok_X12_message (mi 14 rfl) ?_
        refine ex_goto (tgt := 30) ok_X12_message (mi 15 rfl) rfl ?_
        refine ex_iconst ok_X12_message (mi 17 rfl) ?_
        refine ex_iconst ok_X12_message (mi 18 rfl) ?_
        refine sm_V (As := [_, _, _]) ok_X12_message (mi 19 rfl) rfl (s_ref hst (MI_s I)) rfl (fk (MI_s I) 0 rfl) rfl rfl (by decide) (by decide) (Nat.le_of_ble_eq_true rfl) (by decide) RF_no (fun z85 g89 p86 => ?_)
        obtain ⟨b87, v88, eb87, egb87, hrb87⟩ := p86
        cases eb87
        subst egb87
        have J90 := MI_I (f := 1200) (v := v88) I (by decide)
        have haA1' : gx_I (px_I g 1200 y v88) 1248 y = nI A1 := by rw [gxI_I, if_neg (fun k => absurd k.1 (by decide))]; exact haA1
        have h0A1' := MC_I (f := 1200) (v := v88) h0A1
        refine ex_if_eq (tgt := 40) ok_X12_message (mi 20 rfl) rfl (fun h35 => ?_) (fun h35 => ?_)
        · skip
          obtain rfl : b87 = nI 0 := h35.trans (by decide)
          have q91 := hrb87.resolve_right (fun q => absurd q.1 (by decide))
          refine ex_aload_n ok_X12_message (mi 23 rfl) rfl ?_
          refine ex_getRx ok_X12_message (mi 24 rfl) rfl rfl (fk (MI_s J90) 0 rfl) (fr (MI_s J90) 47 rfl) (fk (MI_s J90) 48 rfl) (by decide) ?_
          refine ex_iload_n ok_X12_message (mi 25 rfl) rfl ?_
          refine sm_iald ok_X12_message (mi 26 rfl) (fk (MI_s J90) 48 rfl) (fn (MI_s J90) 48 rfl) rfl (by omega) (by decide) ?_
          obtain ⟨v92, hv92, ev92⟩ := vp_in_of (n := 402) (MI_bd J90 14 rfl (i := a11) (by omega)) (by decide)
          refine ex_top (w := nI v92) ev92 ?_
          refine ex_istore_n ok_X12_message (mi 27 rfl) ?_
          refine ex_iload_n ok_X12_message (mi 28 rfl) rfl ?_
          refine ex_if_ne (tgt := 60) ok_X12_message (mi 29 rfl) rfl (fun _ => ?_) (fun hn => absurd hn (by decide))
          refine ex_iload_n ok_X12_message (mi 35 rfl) rfl ?_
          refine ex_iconst ok_X12_message (mi 36 rfl) ?_
          refine ex_icmp_ne (tgt := 74) ok_X12_message (mi 37 rfl) rfl (fun _ => ?_) (fun hn => absurd hn (by decide))
          refine ex_iload_n ok_X12_message (mi 43 rfl) rfl ?_
          refine ex_iconst ok_X12_message (mi 44 rfl) ?_
          refine ex_icmp_ne (tgt := 88) ok_X12_message (mi 45 rfl) rfl (fun _ => ?_) (fun hn => absurd hn (by decide))
          refine ex_iload_n ok_X12_message (mi 51 rfl) rfl ?_
          refine ex_bipush ok_X12_message (mi 52 rfl) ?_
          refine ex_icmp_ge (tgt := 109) ok_X12_message (mi 53 rfl) rfl (fun _ => ?_) (fun hn => absurd (by decide) hn)
          refine ex_iload_n ok_X12_message (mi 65 rfl) rfl ?_
          refine ex_bipush ok_X12_message (mi 66 rfl) ?_
          refine ex_icmp_ne (tgt := 124) ok_X12_message (mi 67 rfl) rfl (fun _ => ?_) (fun hn => absurd hn (by decide))
          refine ex_aload_n ok_X12_message (mi 73 rfl) rfl ?_
          refine ex_getRx ok_X12_message (mi 74 rfl) rfl rfl (fk (MI_s J90) 0 rfl) (fr (MI_s J90) 54 rfl) (fk (MI_s J90) 55 rfl) (by decide) ?_
          refine ex_iconst ok_X12_message (mi 75 rfl) ?_
          refine ex_iload_n ok_X12_message (mi 76 rfl) rfl ?_
          refine ex_imul ok_X12_message (mi 77 rfl) ?_
          refine ex_top (w := (nI (2 * v92))) (nI_mulc rfl) ?_
          refine ex_iload_n ok_X12_message (mi 78 rfl) rfl ?_
          refine ex_iadd ok_X12_message (mi 79 rfl) ?_
          refine ex_top (w := (nI (2 * v92 + 7))) (nI_add _ 7) ?_
          refine ex_bipush ok_X12_message (mi 80 rfl) ?_
          refine ex_isub ok_X12_message (mi 81 rfl) ?_
          refine ex_top (w := (nI (2 * v92 + 7 - 7))) (nI_subc (a := 2 * v92 + 7) (b := 7) rfl (by omega)) ?_
          refine sm_iald ok_X12_message (mi 82 rfl) (fk (MI_s J90) 55 rfl) (fn (MI_s J90) 55 rfl) rfl (by omega) (by decide) ?_
          refine ex_gen (fun w93 => ?_)
          refine ex_iret ok_X12_message (mi 83 rfl) rfl ?_
          exact ⟨_, rfl, ⟨_, rfl⟩, J90⟩
        · skip
          refine ex_iconst ok_X12_message (mi 21 rfl) ?_
          refine ex_iret ok_X12_message (mi 22 rfl) rfl ?_
          exact ⟨_, rfl, ⟨_, rfl⟩, J90⟩
      · skip
        refine ex_iconst ok_X12_message (mi 14 rfl) ?_
        refine ex_goto (tgt := 30) ok_X12_message (mi 15 rfl) rfl ?_
        refine ex_iconst ok_X12_message (mi 17 rfl) ?_
        refine ex_iconst ok_X12_message (mi 18 rfl) ?_
        refine sm_V (As := [_, _, _]) ok_X12_message (mi 19 rfl) rfl (s_ref hst (MI_s I)) rfl (fk (MI_s I) 0 rfl) rfl rfl (by decide) (by decide) (Nat.le_of_ble_eq_true rfl) (by decide) RF_no (fun z94 g98 p95 => ?_)
        obtain ⟨b96, v97, eb96, egb96, hrb96⟩ := p95
        cases eb96
        subst egb96
        have J99 := MI_I (f := 1200) (v := v97) I (by decide)
        have haA1' : gx_I (px_I g 1200 y v97) 1248 y = nI A1 := by rw [gxI_I, if_neg (fun k => absurd k.1 (by decide))]; exact haA1
        have h0A1' := MC_I (f := 1200) (v := v97) h0A1
        refine ex_if_eq (tgt := 40) ok_X12_message (mi 20 rfl) rfl (fun h35 => ?_) (fun h35 => ?_)
        · skip
          obtain rfl : b96 = nI 0 := h35.trans (by decide)
          have q100 := hrb96.resolve_right (fun q => absurd q.1 (by decide))
          refine ex_aload_n ok_X12_message (mi 23 rfl) rfl ?_
          refine ex_getRx ok_X12_message (mi 24 rfl) rfl rfl (fk (MI_s J99) 0 rfl) (fr (MI_s J99) 47 rfl) (fk (MI_s J99) 48 rfl) (by decide) ?_
          refine ex_iload_n ok_X12_message (mi 25 rfl) rfl ?_
          refine sm_iald ok_X12_message (mi 26 rfl) (fk (MI_s J99) 48 rfl) (fn (MI_s J99) 48 rfl) rfl (by omega) (by decide) ?_
          obtain ⟨v101, hv101, ev101⟩ := vp_in_of (n := 402) (MI_bd J99 14 rfl (i := a11) (by omega)) (by decide)
          refine ex_top (w := nI v101) ev101 ?_
          refine ex_istore_n ok_X12_message (mi 27 rfl) ?_
          refine ex_iload_n ok_X12_message (mi 28 rfl) rfl ?_
          refine ex_if_ne (tgt := 60) ok_X12_message (mi 29 rfl) rfl (fun _ => ?_) (fun hn => absurd hn (by decide))
          refine ex_iload_n ok_X12_message (mi 35 rfl) rfl ?_
          refine ex_iconst ok_X12_message (mi 36 rfl) ?_
          refine ex_icmp_ne (tgt := 74) ok_X12_message (mi 37 rfl) rfl (fun _ => ?_) (fun hn => absurd hn (by decide))
          refine ex_iload_n ok_X12_message (mi 43 rfl) rfl ?_
          refine ex_iconst ok_X12_message (mi 44 rfl) ?_
          refine ex_icmp_ne (tgt := 88) ok_X12_message (mi 45 rfl) rfl (fun _ => ?_) (fun hn => absurd hn (by decide))
          refine ex_iload_n ok_X12_message (mi 51 rfl) rfl ?_
          refine ex_bipush ok_X12_message (mi 52 rfl) ?_
          refine ex_icmp_ge (tgt := 109) ok_X12_message (mi 53 rfl) rfl (fun _ => ?_) (fun hn => absurd (by decide) hn)
          refine ex_iload_n ok_X12_message (mi 65 rfl) rfl ?_
          refine ex_bipush ok_X12_message (mi 66 rfl) ?_
          refine ex_icmp_ne (tgt := 124) ok_X12_message (mi 67 rfl) rfl (fun _ => ?_) (fun hn => absurd hn (by decide))
          refine ex_aload_n ok_X12_message (mi 73 rfl) rfl ?_
          refine ex_getRx ok_X12_message (mi 74 rfl) rfl rfl (fk (MI_s J99) 0 rfl) (fr (MI_s J99) 54 rfl) (fk (MI_s J99) 55 rfl) (by decide) ?_
          refine ex_iconst ok_X12_message (mi 75 rfl) ?_
          refine ex_iload_n ok_X12_message (mi 76 rfl) rfl ?_
          refine ex_imul ok_X12_message (mi 77 rfl) ?_
          refine ex_top (w := (nI (2 * v101))) (nI_mulc rfl) ?_
          refine ex_iload_n ok_X12_message (mi 78 rfl) rfl ?_
          refine ex_iadd ok_X12_message (mi 79 rfl) ?_
          refine ex_top (w := (nI (2 * v101 + 8))) (nI_add _ 8) ?_
          refine ex_bipush ok_X12_message (mi 80 rfl) ?_
          refine ex_isub ok_X12_message (mi 81 rfl) ?_
          refine ex_top (w := (nI (2 * v101 + 8 - 7))) (nI_subc (a := 2 * v101 + 8) (b := 7) rfl (by omega)) ?_
          refine sm_iald ok_X12_message (mi 82 rfl) (fk (MI_s J99) 55 rfl) (fn (MI_s J99) 55 rfl) rfl (by omega) (by decide) ?_
          refine ex_gen (fun w102 => ?_)
          refine ex_iret ok_X12_message (mi 83 rfl) rfl ?_
          exact ⟨_, rfl, ⟨_, rfl⟩, J99⟩
        · skip
          refine ex_iconst ok_X12_message (mi 21 rfl) ?_
          refine ex_iret ok_X12_message (mi 22 rfl) rfl ?_
          exact ⟨_, rfl, ⟨_, rfl⟩, J99⟩
theorem s_X12_leader {G : GE} (hst : (ge_l G).stackTraces = false) {y c : Nat} {D : UT} {R : Nat → Prop} {g : GT} (I : MI y D c R g) {p0 : Int32} {p1 : Int32} : ex_M G 2 0 0 my_X12_leader [.ref y, .int p0, .int p1] g (SM y D c R pI) := by
  refine ex_M_of ok_X12_leader cw_X12_leader rfl hst (Nat.le_of_ble_eq_true rfl) ?_
  refine ex_aload_n ok_X12_leader (mi 0 rfl) rfl ?_
  refine ex_iload_n ok_X12_leader (mi 1 rfl) rfl ?_
  refine ex_iconst ok_X12_leader (mi 2 rfl) ?_
  refine ex_iconst ok_X12_leader (mi 3 rfl) ?_
  refine sf_Sp (As := [_, _, _]) ok_X12_leader (mi 4 rfl) rfl (s_in hst) rfl rfl rfl (by decide) (Nat.le_of_ble_eq_true rfl) (by decide) (fun z1 p2 => ?_)
  obtain ⟨b3, rfl, hb3⟩ := p2
  refine ex_if_eq (tgt := 24) ok_X12_leader (mi 5 rfl) rfl (fun h7 => ?_) (fun h7 => ?_)
  · skip
    obtain rfl : b3 = nI 0 := h7.trans (by decide)
    refine ex_iconst ok_X12_leader (mi 13 rfl) ?_
    refine ex_iconst ok_X12_leader (mi 14 rfl) ?_
    refine ex_iconst ok_X12_leader (mi 15 rfl) ?_
    refine sm_V (As := [_, _, _]) ok_X12_leader (mi 16 rfl) rfl (s_ref hst (MI_s I)) rfl (fk (MI_s I) 0 rfl) rfl rfl (by decide) (by decide) (Nat.le_of_ble_eq_true rfl) (by decide) RF_no (fun z4 g8 p5 => ?_)
    obtain ⟨b6, v7, eb6, egb6, hrb6⟩ := p5
    cases eb6
    subst egb6
    have J9 := MI_I (f := 1200) (v := v7) I (by decide)
    obtain rfl : b6 = nI 1 := hrb6.elim (fun q => absurd (show (nI 0 : Int32) = 0 by decide) q.2.1) (fun q => q.1.trans (by decide))
    refine ex_if_eq (tgt := 35) ok_X12_leader (mi 17 rfl) rfl (fun hn => absurd hn (by decide)) (fun _ => ?_)
    refine ex_iconst ok_X12_leader (mi 18 rfl) ?_
    refine ex_iret ok_X12_leader (mi 19 rfl) rfl ?_
    exact ⟨_, rfl, ⟨_, rfl⟩, J9⟩
  · skip
    obtain ⟨eb3, lb3, ub3⟩ := hb3.resolve_left (fun q => h7 q.1)
    obtain rfl : b3 = nI 1 := eb3.trans (by decide)
    obtain ⟨a10, ha10, rfl⟩ := in_n (n := 2) lb3 ub3 (by decide) rfl (by decide)
    refine ex_iload_n ok_X12_leader (mi 6 rfl) rfl ?_
    refine ex_iconst ok_X12_leader (mi 7 rfl) ?_
    refine ex_bipush ok_X12_leader (mi 8 rfl) ?_
    refine sf_Sp (As := [_, _, _]) ok_X12_leader (mi 9 rfl) rfl (s_in hst) rfl rfl rfl (by decide) (Nat.le_of_ble_eq_true rfl) (by decide) (fun z11 p12 => ?_)
    obtain ⟨b13, rfl, hb13⟩ := p12
    refine ex_if_eq (tgt := 24) ok_X12_leader (mi 10 rfl) rfl (fun h17 => ?_) (fun h17 => ?_)
    · skip
      obtain rfl : b13 = nI 0 := h17.trans (by decide)
      refine ex_iconst ok_X12_leader (mi 13 rfl) ?_
      refine ex_iconst ok_X12_leader (mi 14 rfl) ?_
      refine ex_iconst ok_X12_leader (mi 15 rfl) ?_
      refine sm_V (As := [_, _, _]) ok_X12_leader (mi 16 rfl) rfl (s_ref hst (MI_s I)) rfl (fk (MI_s I) 0 rfl) rfl rfl (by decide) (by decide) (Nat.le_of_ble_eq_true rfl) (by decide) RF_no (fun z14 g18 p15 => ?_)
      obtain ⟨b16, v17, eb16, egb16, hrb16⟩ := p15
      cases eb16
      subst egb16
      have J19 := MI_I (f := 1200) (v := v17) I (by decide)
      obtain rfl : b16 = nI 1 := hrb16.elim (fun q => absurd (show (nI 0 : Int32) = 0 by decide) q.2.1) (fun q => q.1.trans (by decide))
      refine ex_if_eq (tgt := 35) ok_X12_leader (mi 17 rfl) rfl (fun hn => absurd hn (by decide)) (fun _ => ?_)
      refine ex_iconst ok_X12_leader (mi 18 rfl) ?_
      refine ex_iret ok_X12_leader (mi 19 rfl) rfl ?_
      exact ⟨_, rfl, ⟨_, rfl⟩, J19⟩
    · skip
      obtain ⟨eb13, lb13, ub13⟩ := hb13.resolve_left (fun q => h17 q.1)
      obtain rfl : b13 = nI 1 := eb13.trans (by decide)
      obtain ⟨a20, ha20, rfl⟩ := in_n (n := 13) lb13 ub13 (by decide) rfl (by decide)
      rcases (by omega : a20 = 0 ∨ a20 = 1 ∨ a20 = 2 ∨ a20 = 3 ∨ a20 = 4 ∨ a20 = 5 ∨ a20 = 6 ∨ a20 = 7 ∨ a20 = 8 ∨ a20 = 9 ∨ a20 = 10 ∨ a20 = 11 ∨ a20 = 12 ∨ a20 = 13) with rfl | rfl | rfl | rfl | rfl | rfl | rfl | rfl | rfl | rfl | rfl | rfl | rfl | rfl
      · skip
        refine ex_iconst ok_X12_leader (mi 11 rfl) ?_
        refine ex_goto (tgt := 25) ok_X12_leader (mi 12 rfl) rfl ?_
        refine ex_iconst ok_X12_leader (mi 14 rfl) ?_
        refine ex_iconst ok_X12_leader (mi 15 rfl) ?_
        refine sm_V (As := [_, _, _]) ok_X12_leader (mi 16 rfl) rfl (s_ref hst (MI_s I)) rfl (fk (MI_s I) 0 rfl) rfl rfl (by decide) (by decide) (Nat.le_of_ble_eq_true rfl) (by decide) RF_no (fun z21 g25 p22 => ?_)
        obtain ⟨b23, v24, eb23, egb23, hrb23⟩ := p22
        cases eb23
        subst egb23
        have J26 := MI_I (f := 1200) (v := v24) I (by decide)
        refine ex_if_eq (tgt := 35) ok_X12_leader (mi 17 rfl) rfl (fun h30 => ?_) (fun h30 => ?_)
        · skip
          obtain rfl : b23 = nI 0 := h30.trans (by decide)
          have q27 := hrb23.resolve_right (fun q => absurd q.1 (by decide))
          refine ex_aload_n ok_X12_leader (mi 20 rfl) rfl ?_
          refine ex_getRx ok_X12_leader (mi 21 rfl) rfl rfl (fk (MI_s J26) 0 rfl) (fr (MI_s J26) 1 rfl) (fk (MI_s J26) 2 rfl) (by decide) ?_
          refine ex_iload_n ok_X12_leader (mi 22 rfl) rfl ?_
          refine sm_iald ok_X12_leader (mi 23 rfl) (fk (MI_s J26) 2 rfl) (fn (MI_s J26) 2 rfl) rfl (by omega) (by decide) ?_
          refine ex_iconst ok_X12_leader (mi 24 rfl) ?_
          refine ex_icmp_ne (tgt := 49) ok_X12_leader (mi 25 rfl) rfl (fun h42 => ?_) (fun h42 => ?_)
          · skip
            refine ex_iconst ok_X12_leader (mi 28 rfl) ?_
            refine ex_istore_n ok_X12_leader (mi 29 rfl) ?_
            refine ex_iload_n ok_X12_leader (mi 30 rfl) rfl ?_
            refine ex_tblk (tgt := 120) ok_X12_leader (mi 31 rfl) (by decide) (by decide) (by decide) (by decide) ?_
            refine ex_aload_n ok_X12_leader (mi 32 rfl) rfl ?_
            refine ex_getRx ok_X12_leader (mi 33 rfl) rfl rfl (fk (MI_s J26) 0 rfl) (fr (MI_s J26) 1 rfl) (fk (MI_s J26) 2 rfl) (by decide) ?_
            refine ex_iload_n ok_X12_leader (mi 34 rfl) rfl ?_
            refine sm_iald ok_X12_leader (mi 35 rfl) (fk (MI_s J26) 2 rfl) (fn (MI_s J26) 2 rfl) rfl (by omega) (by decide) ?_
            refine ex_iret ok_X12_leader (mi 36 rfl) rfl ?_
            exact ⟨_, rfl, ⟨_, rfl⟩, J26⟩
          · skip
            have J28 := MI_Ra (l := a10) J26 (by rw [h42]; decide)
            refine ex_iconst ok_X12_leader (mi 26 rfl) ?_
            refine ex_goto (tgt := 50) ok_X12_leader (mi 27 rfl) rfl ?_
            refine ex_istore_n ok_X12_leader (mi 29 rfl) ?_
            refine ex_iload_n ok_X12_leader (mi 30 rfl) rfl ?_
            refine ex_tblk (tgt := 120) ok_X12_leader (mi 31 rfl) (by decide) (by decide) (by decide) (by decide) ?_
            refine ex_aload_n ok_X12_leader (mi 32 rfl) rfl ?_
            refine ex_getRx ok_X12_leader (mi 33 rfl) rfl rfl (fk (MI_s J28) 0 rfl) (fr (MI_s J28) 1 rfl) (fk (MI_s J28) 2 rfl) (by decide) ?_
            refine ex_iload_n ok_X12_leader (mi 34 rfl) rfl ?_
            refine sm_iald ok_X12_leader (mi 35 rfl) (fk (MI_s J28) 2 rfl) (fn (MI_s J28) 2 rfl) rfl (by omega) (by decide) ?_
            refine ex_iret ok_X12_leader (mi 36 rfl) rfl ?_
            exact ⟨_, rfl, ⟨_, rfl⟩, (MI_Rw J28 (fun l k => (Or.inl k)))⟩
        · skip
          refine ex_iconst ok_X12_leader (mi 18 rfl) ?_
          refine ex_iret ok_X12_leader (mi 19 rfl) rfl ?_
          exact ⟨_, rfl, ⟨_, rfl⟩, J26⟩
      · skip
        refine ex_iconst ok_X12_leader (mi 11 rfl) ?_
        refine ex_goto (tgt := 25) ok_X12_leader (mi 12 rfl) rfl ?_
        refine ex_iconst ok_X12_leader (mi 14 rfl) ?_
        refine ex_iconst ok_X12_leader (mi 15 rfl) ?_
        refine sm_V (As := [_, _, _]) ok_X12_leader (mi 16 rfl) rfl (s_ref hst (MI_s I)) rfl (fk (MI_s I) 0 rfl) rfl rfl (by decide) (by decide) (Nat.le_of_ble_eq_true rfl) (by decide) RF_no (fun z29 g33 p30 => ?_)
        obtain ⟨b31, v32, eb31, egb31, hrb31⟩ := p30
        cases eb31
        subst egb31
        have J34 := MI_I (f := 1200) (v := v32) I (by decide)
        refine ex_if_eq (tgt := 35) ok_X12_leader (mi 17 rfl) rfl (fun h30 => ?_) (fun h30 => ?_)
        · skip
          obtain rfl : b31 = nI 0 := h30.trans (by decide)
          have q35 := hrb31.resolve_right (fun q => absurd q.1 (by decide))
          refine ex_aload_n ok_X12_leader (mi 20 rfl) rfl ?_
          refine ex_getRx ok_X12_leader (mi 21 rfl) rfl rfl (fk (MI_s J34) 0 rfl) (fr (MI_s J34) 1 rfl) (fk (MI_s J34) 2 rfl) (by decide) ?_
          refine ex_iload_n ok_X12_leader (mi 22 rfl) rfl ?_
          refine sm_iald ok_X12_leader (mi 23 rfl) (fk (MI_s J34) 2 rfl) (fn (MI_s J34) 2 rfl) rfl (by omega) (by decide) ?_
          refine ex_iconst ok_X12_leader (mi 24 rfl) ?_
          refine ex_icmp_ne (tgt := 49) ok_X12_leader (mi 25 rfl) rfl (fun h42 => ?_) (fun h42 => ?_)
          · skip
            refine ex_iconst ok_X12_leader (mi 28 rfl) ?_
            refine ex_istore_n ok_X12_leader (mi 29 rfl) ?_
            refine ex_iload_n ok_X12_leader (mi 30 rfl) rfl ?_
            refine ex_tblk (tgt := 127) ok_X12_leader (mi 31 rfl) (by decide) (by decide) (by decide) (by decide) ?_
            refine ex_aload_n ok_X12_leader (mi 37 rfl) rfl ?_
            refine ex_getRx ok_X12_leader (mi 38 rfl) rfl rfl (fk (MI_s J34) 0 rfl) (fr (MI_s J34) 2 rfl) (fk (MI_s J34) 3 rfl) (by decide) ?_
            refine ex_iload_n ok_X12_leader (mi 39 rfl) rfl ?_
            refine sm_iald ok_X12_leader (mi 40 rfl) (fk (MI_s J34) 3 rfl) (fn (MI_s J34) 3 rfl) rfl (by omega) (by decide) ?_
            refine ex_gen (fun w36 => ?_)
            refine ex_iret ok_X12_leader (mi 41 rfl) rfl ?_
            exact ⟨_, rfl, ⟨_, rfl⟩, J34⟩
          · skip
            have J37 := MI_Ra (l := a10) J34 (by rw [h42]; decide)
            refine ex_iconst ok_X12_leader (mi 26 rfl) ?_
            refine ex_goto (tgt := 50) ok_X12_leader (mi 27 rfl) rfl ?_
            refine ex_istore_n ok_X12_leader (mi 29 rfl) ?_
            refine ex_iload_n ok_X12_leader (mi 30 rfl) rfl ?_
            refine ex_tblk (tgt := 127) ok_X12_leader (mi 31 rfl) (by decide) (by decide) (by decide) (by decide) ?_
            refine ex_aload_n ok_X12_leader (mi 37 rfl) rfl ?_
            refine ex_getRx ok_X12_leader (mi 38 rfl) rfl rfl (fk (MI_s J37) 0 rfl) (fr (MI_s J37) 2 rfl) (fk (MI_s J37) 3 rfl) (by decide) ?_
            refine ex_iload_n ok_X12_leader (mi 39 rfl) rfl ?_
            refine sm_iald ok_X12_leader (mi 40 rfl) (fk (MI_s J37) 3 rfl) (fn (MI_s J37) 3 rfl) rfl (by omega) (by decide) ?_
            obtain ⟨v38, hv38, ev38⟩ := vp_in_of (n := 300) (MI_rd J37 (i := a10) (by omega) (Or.inr rfl)) (by decide)
            refine ex_top (w := nI v38) ev38 ?_
            refine ex_iret ok_X12_leader (mi 41 rfl) rfl ?_
            exact ⟨_, rfl, ⟨_, rfl⟩, (MI_Rw J37 (fun l k => (Or.inl k)))⟩
        · skip
          refine ex_iconst ok_X12_leader (mi 18 rfl) ?_
          refine ex_iret ok_X12_leader (mi 19 rfl) rfl ?_
          exact ⟨_, rfl, ⟨_, rfl⟩, J34⟩
      · skip
        refine ex_iconst ok_X12_leader (mi 11 rfl) ?_
        refine ex_goto (tgt := 25) ok_X12_leader (mi 12 rfl) rfl ?_
        refine ex_iconst ok_X12_leader (mi 14 rfl) ?_
        refine ex_iconst ok_X12_leader (mi 15 rfl) ?_
        refine sm_V (As := [_, _, _]) ok_X12_leader (mi 16 rfl) rfl (s_ref hst (MI_s I)) rfl (fk (MI_s I) 0 rfl) rfl rfl (by decide) (by decide) (Nat.le_of_ble_eq_true rfl) (by decide) RF_no (fun z39 g43 p40 => ?_)
        obtain ⟨b41, v42, eb41, egb41, hrb41⟩ := p40
        cases eb41
        subst egb41
        have J44 := MI_I (f := 1200) (v := v42) I (by decide)
        refine ex_if_eq (tgt := 35) ok_X12_leader (mi 17 rfl) rfl (fun h30 => ?_) (fun h30 => ?_)
        · skip
          obtain rfl : b41 = nI 0 := h30.trans (by decide)
          have q45 := hrb41.resolve_right (fun q => absurd q.1 (by decide))
          refine ex_aload_n ok_X12_leader (mi 20 rfl) rfl ?_
          refine ex_getRx ok_X12_leader (mi 21 rfl) rfl rfl (fk (MI_s J44) 0 rfl) (fr (MI_s J44) 1 rfl) (fk (MI_s J44) 2 rfl) (by decide) ?_
          refine ex_iload_n ok_X12_leader (mi 22 rfl) rfl ?_
          refine sm_iald ok_X12_leader (mi 23 rfl) (fk (MI_s J44) 2 rfl) (fn (MI_s J44) 2 rfl) rfl (by omega) (by decide) ?_
          refine ex_iconst ok_X12_leader (mi 24 rfl) ?_
          refine ex_icmp_ne (tgt := 49) ok_X12_leader (mi 25 rfl) rfl (fun h42 => ?_) (fun h42 => ?_)
          · skip
            refine ex_iconst ok_X12_leader (mi 28 rfl) ?_
            refine ex_istore_n ok_X12_leader (mi 29 rfl) ?_
            refine ex_iload_n ok_X12_leader (mi 30 rfl) rfl ?_
            refine ex_tblk (tgt := 134) ok_X12_leader (mi 31 rfl) (by decide) (by decide) (by decide) (by decide) ?_
            refine ex_aload_n ok_X12_leader (mi 42 rfl) rfl ?_
            refine ex_getRx ok_X12_leader (mi 43 rfl) rfl rfl (fk (MI_s J44) 0 rfl) (fr (MI_s J44) 3 rfl) (fk (MI_s J44) 4 rfl) (by decide) ?_
            refine ex_iload_n ok_X12_leader (mi 44 rfl) rfl ?_
            refine sm_iald ok_X12_leader (mi 45 rfl) (fk (MI_s J44) 4 rfl) (fn (MI_s J44) 4 rfl) rfl (by omega) (by decide) ?_
            refine ex_gen (fun w46 => ?_)
            refine ex_iret ok_X12_leader (mi 46 rfl) rfl ?_
            exact ⟨_, rfl, ⟨_, rfl⟩, J44⟩
          · skip
            have J47 := MI_Ra (l := a10) J44 (by rw [h42]; decide)
            refine ex_iconst ok_X12_leader (mi 26 rfl) ?_
            refine ex_goto (tgt := 50) ok_X12_leader (mi 27 rfl) rfl ?_
            refine ex_istore_n ok_X12_leader (mi 29 rfl) ?_
            refine ex_iload_n ok_X12_leader (mi 30 rfl) rfl ?_
            refine ex_tblk (tgt := 134) ok_X12_leader (mi 31 rfl) (by decide) (by decide) (by decide) (by decide) ?_
            refine ex_aload_n ok_X12_leader (mi 42 rfl) rfl ?_
            refine ex_getRx ok_X12_leader (mi 43 rfl) rfl rfl (fk (MI_s J47) 0 rfl) (fr (MI_s J47) 3 rfl) (fk (MI_s J47) 4 rfl) (by decide) ?_
            refine ex_iload_n ok_X12_leader (mi 44 rfl) rfl ?_
            refine sm_iald ok_X12_leader (mi 45 rfl) (fk (MI_s J47) 4 rfl) (fn (MI_s J47) 4 rfl) rfl (by omega) (by decide) ?_
            refine ex_gen (fun w48 => ?_)
            refine ex_iret ok_X12_leader (mi 46 rfl) rfl ?_
            exact ⟨_, rfl, ⟨_, rfl⟩, (MI_Rw J47 (fun l k => (Or.inl k)))⟩
        · skip
          refine ex_iconst ok_X12_leader (mi 18 rfl) ?_
          refine ex_iret ok_X12_leader (mi 19 rfl) rfl ?_
          exact ⟨_, rfl, ⟨_, rfl⟩, J44⟩
      · skip
        refine ex_iconst ok_X12_leader (mi 11 rfl) ?_
        refine ex_goto (tgt := 25) ok_X12_leader (mi 12 rfl) rfl ?_
        refine ex_iconst ok_X12_leader (mi 14 rfl) ?_
        refine ex_iconst ok_X12_leader (mi 15 rfl) ?_
        refine sm_V (As := [_, _, _]) ok_X12_leader (mi 16 rfl) rfl (s_ref hst (MI_s I)) rfl (fk (MI_s I) 0 rfl) rfl rfl (by decide) (by decide) (Nat.le_of_ble_eq_true rfl) (by decide) RF_no (fun z49 g53 p50 => ?_)
        obtain ⟨b51, v52, eb51, egb51, hrb51⟩ := p50
        cases eb51
        subst egb51
        have J54 := MI_I (f := 1200) (v := v52) I (by decide)
        refine ex_if_eq (tgt := 35) ok_X12_leader (mi 17 rfl) rfl (fun h30 => ?_) (fun h30 => ?_)
        · skip
          obtain rfl : b51 = nI 0 := h30.trans (by decide)
          have q55 := hrb51.resolve_right (fun q => absurd q.1 (by decide))
          refine ex_aload_n ok_X12_leader (mi 20 rfl) rfl ?_
          refine ex_getRx ok_X12_leader (mi 21 rfl) rfl rfl (fk (MI_s J54) 0 rfl) (fr (MI_s J54) 1 rfl) (fk (MI_s J54) 2 rfl) (by decide) ?_
          refine ex_iload_n ok_X12_leader (mi 22 rfl) rfl ?_
          refine sm_iald ok_X12_leader (mi 23 rfl) (fk (MI_s J54) 2 rfl) (fn (MI_s J54) 2 rfl) rfl (by omega) (by decide) ?_
          refine ex_iconst ok_X12_leader (mi 24 rfl) ?_
          refine ex_icmp_ne (tgt := 49) ok_X12_leader (mi 25 rfl) rfl (fun h42 => ?_) (fun h42 => ?_)
          · skip
            refine ex_iconst ok_X12_leader (mi 28 rfl) ?_
            refine ex_istore_n ok_X12_leader (mi 29 rfl) ?_
            refine ex_iload_n ok_X12_leader (mi 30 rfl) rfl ?_
            refine ex_tblk (tgt := 141) ok_X12_leader (mi 31 rfl) (by decide) (by decide) (by decide) (by decide) ?_
            refine ex_aload_n ok_X12_leader (mi 47 rfl) rfl ?_
            refine ex_getRx ok_X12_leader (mi 48 rfl) rfl rfl (fk (MI_s J54) 0 rfl) (fr (MI_s J54) 4 rfl) (fk (MI_s J54) 5 rfl) (by decide) ?_
            refine ex_iload_n ok_X12_leader (mi 49 rfl) rfl ?_
            refine sm_iald ok_X12_leader (mi 50 rfl) (fk (MI_s J54) 5 rfl) (fn (MI_s J54) 5 rfl) rfl (by omega) (by decide) ?_
            refine ex_gen (fun w56 => ?_)
            refine ex_iret ok_X12_leader (mi 51 rfl) rfl ?_
            exact ⟨_, rfl, ⟨_, rfl⟩, J54⟩
          · skip
            have J57 := MI_Ra (l := a10) J54 (by rw [h42]; decide)
            refine ex_iconst ok_X12_leader (mi 26 rfl) ?_
            refine ex_goto (tgt := 50) ok_X12_leader (mi 27 rfl) rfl ?_
            refine ex_istore_n ok_X12_leader (mi 29 rfl) ?_
            refine ex_iload_n ok_X12_leader (mi 30 rfl) rfl ?_
            refine ex_tblk (tgt := 141) ok_X12_leader (mi 31 rfl) (by decide) (by decide) (by decide) (by decide) ?_
            refine ex_aload_n ok_X12_leader (mi 47 rfl) rfl ?_
            refine ex_getRx ok_X12_leader (mi 48 rfl) rfl rfl (fk (MI_s J57) 0 rfl) (fr (MI_s J57) 4 rfl) (fk (MI_s J57) 5 rfl) (by decide) ?_
            refine ex_iload_n ok_X12_leader (mi 49 rfl) rfl ?_
            refine sm_iald ok_X12_leader (mi 50 rfl) (fk (MI_s J57) 5 rfl) (fn (MI_s J57) 5 rfl) rfl (by omega) (by decide) ?_
            refine ex_gen (fun w58 => ?_)
            refine ex_iret ok_X12_leader (mi 51 rfl) rfl ?_
            exact ⟨_, rfl, ⟨_, rfl⟩, (MI_Rw J57 (fun l k => (Or.inl k)))⟩
        · skip
          refine ex_iconst ok_X12_leader (mi 18 rfl) ?_
          refine ex_iret ok_X12_leader (mi 19 rfl) rfl ?_
          exact ⟨_, rfl, ⟨_, rfl⟩, J54⟩
      · skip
        refine ex_iconst ok_X12_leader (mi 11 rfl) ?_
        refine ex_goto (tgt := 25) ok_X12_leader (mi 12 rfl) rfl ?_
        refine ex_iconst ok_X12_leader (mi 14 rfl) ?_
        refine ex_iconst ok_X12_leader (mi 15 rfl) ?_
        refine sm_V (As := [_, _, _]) ok_X12_leader (mi 16 rfl) rfl (s_ref hst (MI_s I)) rfl (fk (MI_s I) 0 rfl) rfl rfl (by decide) (by decide) (Nat.le_of_ble_eq_true rfl) (by decide) RF_no (fun z59 g63 p60 => ?_)
        obtain ⟨b61, v62, eb61, egb61, hrb61⟩ := p60
        cases eb61
        subst egb61
        have J64 := MI_I (f := 1200) (v := v62) I (by decide)
        refine ex_if_eq (tgt := 35) ok_X12_leader (mi 17 rfl) rfl (fun h30 => ?_) (fun h30 => ?_)
        · skip
          obtain rfl : b61 = nI 0 := h30.trans (by decide)
          have q65 := hrb61.resolve_right (fun q => absurd q.1 (by decide))
          refine ex_aload_n ok_X12_leader (mi 20 rfl) rfl ?_
          refine ex_getRx ok_X12_leader (mi 21 rfl) rfl rfl (fk (MI_s J64) 0 rfl) (fr (MI_s J64) 1 rfl) (fk (MI_s J64) 2 rfl) (by decide) ?_
          refine ex_iload_n ok_X12_leader (mi 22 rfl) rfl ?_
          refine sm_iald ok_X12_leader (mi 23 rfl) (fk (MI_s J64) 2 rfl) (fn (MI_s J64) 2 rfl) rfl (by omega) (by decide) ?_
          refine ex_iconst ok_X12_leader (mi 24 rfl) ?_
          refine ex_icmp_ne (tgt := 49) ok_X12_leader (mi 25 rfl) rfl (fun h42 => ?_) (fun h42 => ?_)
          · skip
            refine ex_iconst ok_X12_leader (mi 28 rfl) ?_
            refine ex_istore_n ok_X12_leader (mi 29 rfl) ?_
            refine ex_iload_n ok_X12_leader (mi 30 rfl) rfl ?_
            refine ex_tblk (tgt := 148) ok_X12_leader (mi 31 rfl) (by decide) (by decide) (by decide) (by decide) ?_
            refine ex_aload_n ok_X12_leader (mi 52 rfl) rfl ?_
            refine ex_getRx ok_X12_leader (mi 53 rfl) rfl rfl (fk (MI_s J64) 0 rfl) (fr (MI_s J64) 5 rfl) (fk (MI_s J64) 6 rfl) (by decide) ?_
            refine ex_iload_n ok_X12_leader (mi 54 rfl) rfl ?_
            refine sm_iald ok_X12_leader (mi 55 rfl) (fk (MI_s J64) 6 rfl) (fn (MI_s J64) 6 rfl) rfl (by omega) (by decide) ?_
            obtain ⟨v66, hv66, ev66⟩ := vp_in_of (n := 512) (MI_bd J64 0 rfl (i := a10) (by omega)) (by decide)
            refine ex_top (w := nI v66) ev66 ?_
            refine ex_iret ok_X12_leader (mi 56 rfl) rfl ?_
            exact ⟨_, rfl, ⟨_, rfl⟩, J64⟩
          · skip
            have J67 := MI_Ra (l := a10) J64 (by rw [h42]; decide)
            refine ex_iconst ok_X12_leader (mi 26 rfl) ?_
            refine ex_goto (tgt := 50) ok_X12_leader (mi 27 rfl) rfl ?_
            refine ex_istore_n ok_X12_leader (mi 29 rfl) ?_
            refine ex_iload_n ok_X12_leader (mi 30 rfl) rfl ?_
            refine ex_tblk (tgt := 148) ok_X12_leader (mi 31 rfl) (by decide) (by decide) (by decide) (by decide) ?_
            refine ex_aload_n ok_X12_leader (mi 52 rfl) rfl ?_
            refine ex_getRx ok_X12_leader (mi 53 rfl) rfl rfl (fk (MI_s J67) 0 rfl) (fr (MI_s J67) 5 rfl) (fk (MI_s J67) 6 rfl) (by decide) ?_
            refine ex_iload_n ok_X12_leader (mi 54 rfl) rfl ?_
            refine sm_iald ok_X12_leader (mi 55 rfl) (fk (MI_s J67) 6 rfl) (fn (MI_s J67) 6 rfl) rfl (by omega) (by decide) ?_
            obtain ⟨v68, hv68, ev68⟩ := vp_in_of (n := 512) (MI_bd J67 0 rfl (i := a10) (by omega)) (by decide)
            refine ex_top (w := nI v68) ev68 ?_
            refine ex_iret ok_X12_leader (mi 56 rfl) rfl ?_
            exact ⟨_, rfl, ⟨_, rfl⟩, (MI_Rw J67 (fun l k => (Or.inl k)))⟩
        · skip
          refine ex_iconst ok_X12_leader (mi 18 rfl) ?_
          refine ex_iret ok_X12_leader (mi 19 rfl) rfl ?_
          exact ⟨_, rfl, ⟨_, rfl⟩, J64⟩
      · skip
        refine ex_iconst ok_X12_leader (mi 11 rfl) ?_
        refine ex_goto (tgt := 25) ok_X12_leader (mi 12 rfl) rfl ?_
        refine ex_iconst ok_X12_leader (mi 14 rfl) ?_
        refine ex_iconst ok_X12_leader (mi 15 rfl) ?_
        refine sm_V (As := [_, _, _]) ok_X12_leader (mi 16 rfl) rfl (s_ref hst (MI_s I)) rfl (fk (MI_s I) 0 rfl) rfl rfl (by decide) (by decide) (Nat.le_of_ble_eq_true rfl) (by decide) RF_no (fun z69 g73 p70 => ?_)
        obtain ⟨b71, v72, eb71, egb71, hrb71⟩ := p70
        cases eb71
        subst egb71
        have J74 := MI_I (f := 1200) (v := v72) I (by decide)
        refine ex_if_eq (tgt := 35) ok_X12_leader (mi 17 rfl) rfl (fun h30 => ?_) (fun h30 => ?_)
        · skip
          obtain rfl : b71 = nI 0 := h30.trans (by decide)
          have q75 := hrb71.resolve_right (fun q => absurd q.1 (by decide))
          refine ex_aload_n ok_X12_leader (mi 20 rfl) rfl ?_
          refine ex_getRx ok_X12_leader (mi 21 rfl) rfl rfl (fk (MI_s J74) 0 rfl) (fr (MI_s J74) 1 rfl) (fk (MI_s J74) 2 rfl) (by decide) ?_
          refine ex_iload_n ok_X12_leader (mi 22 rfl) rfl ?_
          refine sm_iald ok_X12_leader (mi 23 rfl) (fk (MI_s J74) 2 rfl) (fn (MI_s J74) 2 rfl) rfl (by omega) (by decide) ?_
          refine ex_iconst ok_X12_leader (mi 24 rfl) ?_
          refine ex_icmp_ne (tgt := 49) ok_X12_leader (mi 25 rfl) rfl (fun h42 => ?_) (fun h42 => ?_)
          · skip
            refine ex_iconst ok_X12_leader (mi 28 rfl) ?_
            refine ex_istore_n ok_X12_leader (mi 29 rfl) ?_
            refine ex_iload_n ok_X12_leader (mi 30 rfl) rfl ?_
            refine ex_tblk (tgt := 155) ok_X12_leader (mi 31 rfl) (by decide) (by decide) (by decide) (by decide) ?_
            refine ex_aload_n ok_X12_leader (mi 57 rfl) rfl ?_
            refine ex_iload_n ok_X12_leader (mi 58 rfl) rfl ?_
            refine sf_Vp (As := [_]) ok_X12_leader (mi 59 rfl) rfl (s_X12_history hst (MI_s J74) (vp_in_nI (N := 3) (by omega) (by decide))) rfl (fk (MI_s J74) 0 rfl) rfl rfl (by decide) (by decide) (Nat.le_of_ble_eq_true rfl) (by decide) (fun z76 p77 => ?_)
            obtain ⟨v80, rfl⟩ := p77
            refine ex_iret ok_X12_leader (mi 60 rfl) rfl ?_
            exact ⟨_, rfl, ⟨_, rfl⟩, J74⟩
          · skip
            have J81 := MI_Ra (l := a10) J74 (by rw [h42]; decide)
            refine ex_iconst ok_X12_leader (mi 26 rfl) ?_
            refine ex_goto (tgt := 50) ok_X12_leader (mi 27 rfl) rfl ?_
            refine ex_istore_n ok_X12_leader (mi 29 rfl) ?_
            refine ex_iload_n ok_X12_leader (mi 30 rfl) rfl ?_
            refine ex_tblk (tgt := 155) ok_X12_leader (mi 31 rfl) (by decide) (by decide) (by decide) (by decide) ?_
            refine ex_aload_n ok_X12_leader (mi 57 rfl) rfl ?_
            refine ex_iload_n ok_X12_leader (mi 58 rfl) rfl ?_
            refine sf_Vp (As := [_]) ok_X12_leader (mi 59 rfl) rfl (s_X12_history hst (MI_s J81) (vp_in_nI (N := 3) (by omega) (by decide))) rfl (fk (MI_s J81) 0 rfl) rfl rfl (by decide) (by decide) (Nat.le_of_ble_eq_true rfl) (by decide) (fun z82 p83 => ?_)
            obtain ⟨v86, rfl⟩ := p83
            refine ex_iret ok_X12_leader (mi 60 rfl) rfl ?_
            exact ⟨_, rfl, ⟨_, rfl⟩, (MI_Rw J81 (fun l k => (Or.inl k)))⟩
        · skip
          refine ex_iconst ok_X12_leader (mi 18 rfl) ?_
          refine ex_iret ok_X12_leader (mi 19 rfl) rfl ?_
          exact ⟨_, rfl, ⟨_, rfl⟩, J74⟩
      · skip
        refine ex_iconst ok_X12_leader (mi 11 rfl) ?_
        refine ex_goto (tgt := 25) ok_X12_leader (mi 12 rfl) rfl ?_
        refine ex_iconst ok_X12_leader (mi 14 rfl) ?_
        refine ex_iconst ok_X12_leader (mi 15 rfl) ?_
        refine sm_V (As := [_, _, _]) ok_X12_leader (mi 16 rfl) rfl (s_ref hst (MI_s I)) rfl (fk (MI_s I) 0 rfl) rfl rfl (by decide) (by decide) (Nat.le_of_ble_eq_true rfl) (by decide) RF_no (fun z87 g91 p88 => ?_)
        obtain ⟨b89, v90, eb89, egb89, hrb89⟩ := p88
        cases eb89
        subst egb89
        have J92 := MI_I (f := 1200) (v := v90) I (by decide)
        refine ex_if_eq (tgt := 35) ok_X12_leader (mi 17 rfl) rfl (fun h30 => ?_) (fun h30 => ?_)
        · skip
          obtain rfl : b89 = nI 0 := h30.trans (by decide)
          have q93 := hrb89.resolve_right (fun q => absurd q.1 (by decide))
          refine ex_aload_n ok_X12_leader (mi 20 rfl) rfl ?_
          refine ex_getRx ok_X12_leader (mi 21 rfl) rfl rfl (fk (MI_s J92) 0 rfl) (fr (MI_s J92) 1 rfl) (fk (MI_s J92) 2 rfl) (by decide) ?_
          refine ex_iload_n ok_X12_leader (mi 22 rfl) rfl ?_
          refine sm_iald ok_X12_leader (mi 23 rfl) (fk (MI_s J92) 2 rfl) (fn (MI_s J92) 2 rfl) rfl (by omega) (by decide) ?_
          refine ex_iconst ok_X12_leader (mi 24 rfl) ?_
          refine ex_icmp_ne (tgt := 49) ok_X12_leader (mi 25 rfl) rfl (fun h42 => ?_) (fun h42 => ?_)
          · skip
            refine ex_iconst ok_X12_leader (mi 28 rfl) ?_
            refine ex_istore_n ok_X12_leader (mi 29 rfl) ?_
            refine ex_iload_n ok_X12_leader (mi 30 rfl) rfl ?_
            refine ex_tblk (tgt := 161) ok_X12_leader (mi 31 rfl) (by decide) (by decide) (by decide) (by decide) ?_
            refine ex_iload_n ok_X12_leader (mi 61 rfl) rfl ?_
            refine ex_if_eq (tgt := 174) ok_X12_leader (mi 62 rfl) rfl (fun _ => ?_) (fun hn => absurd (by decide) hn)
            refine ex_iconst ok_X12_leader (mi 68 rfl) ?_
            refine ex_iret ok_X12_leader (mi 69 rfl) rfl ?_
            exact ⟨_, rfl, ⟨_, rfl⟩, J92⟩
          · skip
            have J94 := MI_Ra (l := a10) J92 (by rw [h42]; decide)
            refine ex_iconst ok_X12_leader (mi 26 rfl) ?_
            refine ex_goto (tgt := 50) ok_X12_leader (mi 27 rfl) rfl ?_
            refine ex_istore_n ok_X12_leader (mi 29 rfl) ?_
            refine ex_iload_n ok_X12_leader (mi 30 rfl) rfl ?_
            refine ex_tblk (tgt := 161) ok_X12_leader (mi 31 rfl) (by decide) (by decide) (by decide) (by decide) ?_
            refine ex_iload_n ok_X12_leader (mi 61 rfl) rfl ?_
            refine ex_if_eq (tgt := 174) ok_X12_leader (mi 62 rfl) rfl (fun hn => absurd hn (by decide)) (fun _ => ?_)
            refine ex_aload_n ok_X12_leader (mi 63 rfl) rfl ?_
            refine ex_getRx ok_X12_leader (mi 64 rfl) rfl rfl (fk (MI_s J94) 0 rfl) (fr (MI_s J94) 13 rfl) (fk (MI_s J94) 14 rfl) (by decide) ?_
            refine ex_iload_n ok_X12_leader (mi 65 rfl) rfl ?_
            refine sm_iald ok_X12_leader (mi 66 rfl) (fk (MI_s J94) 14 rfl) (fn (MI_s J94) 14 rfl) rfl (by omega) (by decide) ?_
            obtain ⟨v95, hv95, ev95⟩ := vp_in_of (n := 17) (MI_bd J94 3 rfl (i := a10) (by omega)) (by decide)
            refine ex_top (w := nI v95) ev95 ?_
            refine ex_goto (tgt := 175) ok_X12_leader (mi 67 rfl) rfl ?_
            refine ex_iret ok_X12_leader (mi 69 rfl) rfl ?_
            exact ⟨_, rfl, ⟨_, rfl⟩, (MI_Rw J94 (fun l k => (Or.inl k)))⟩
        · skip
          refine ex_iconst ok_X12_leader (mi 18 rfl) ?_
          refine ex_iret ok_X12_leader (mi 19 rfl) rfl ?_
          exact ⟨_, rfl, ⟨_, rfl⟩, J92⟩
      · skip
        refine ex_iconst ok_X12_leader (mi 11 rfl) ?_
        refine ex_goto (tgt := 25) ok_X12_leader (mi 12 rfl) rfl ?_
        refine ex_iconst ok_X12_leader (mi 14 rfl) ?_
        refine ex_iconst ok_X12_leader (mi 15 rfl) ?_
        refine sm_V (As := [_, _, _]) ok_X12_leader (mi 16 rfl) rfl (s_ref hst (MI_s I)) rfl (fk (MI_s I) 0 rfl) rfl rfl (by decide) (by decide) (Nat.le_of_ble_eq_true rfl) (by decide) RF_no (fun z96 g100 p97 => ?_)
        obtain ⟨b98, v99, eb98, egb98, hrb98⟩ := p97
        cases eb98
        subst egb98
        have J101 := MI_I (f := 1200) (v := v99) I (by decide)
        refine ex_if_eq (tgt := 35) ok_X12_leader (mi 17 rfl) rfl (fun h30 => ?_) (fun h30 => ?_)
        · skip
          obtain rfl : b98 = nI 0 := h30.trans (by decide)
          have q102 := hrb98.resolve_right (fun q => absurd q.1 (by decide))
          refine ex_aload_n ok_X12_leader (mi 20 rfl) rfl ?_
          refine ex_getRx ok_X12_leader (mi 21 rfl) rfl rfl (fk (MI_s J101) 0 rfl) (fr (MI_s J101) 1 rfl) (fk (MI_s J101) 2 rfl) (by decide) ?_
          refine ex_iload_n ok_X12_leader (mi 22 rfl) rfl ?_
          refine sm_iald ok_X12_leader (mi 23 rfl) (fk (MI_s J101) 2 rfl) (fn (MI_s J101) 2 rfl) rfl (by omega) (by decide) ?_
          refine ex_iconst ok_X12_leader (mi 24 rfl) ?_
          refine ex_icmp_ne (tgt := 49) ok_X12_leader (mi 25 rfl) rfl (fun h42 => ?_) (fun h42 => ?_)
          · skip
            refine ex_iconst ok_X12_leader (mi 28 rfl) ?_
            refine ex_istore_n ok_X12_leader (mi 29 rfl) ?_
            refine ex_iload_n ok_X12_leader (mi 30 rfl) rfl ?_
            refine ex_tblk (tgt := 176) ok_X12_leader (mi 31 rfl) (by decide) (by decide) (by decide) (by decide) ?_
            refine ex_iload_n ok_X12_leader (mi 70 rfl) rfl ?_
            refine ex_if_eq (tgt := 189) ok_X12_leader (mi 71 rfl) rfl (fun _ => ?_) (fun hn => absurd (by decide) hn)
            refine ex_iconst ok_X12_leader (mi 77 rfl) ?_
            refine ex_iret ok_X12_leader (mi 78 rfl) rfl ?_
            exact ⟨_, rfl, ⟨_, rfl⟩, J101⟩
          · skip
            have J103 := MI_Ra (l := a10) J101 (by rw [h42]; decide)
            refine ex_iconst ok_X12_leader (mi 26 rfl) ?_
            refine ex_goto (tgt := 50) ok_X12_leader (mi 27 rfl) rfl ?_
            refine ex_istore_n ok_X12_leader (mi 29 rfl) ?_
            refine ex_iload_n ok_X12_leader (mi 30 rfl) rfl ?_
            refine ex_tblk (tgt := 176) ok_X12_leader (mi 31 rfl) (by decide) (by decide) (by decide) (by decide) ?_
            refine ex_iload_n ok_X12_leader (mi 70 rfl) rfl ?_
            refine ex_if_eq (tgt := 189) ok_X12_leader (mi 71 rfl) rfl (fun hn => absurd hn (by decide)) (fun _ => ?_)
            refine ex_aload_n ok_X12_leader (mi 72 rfl) rfl ?_
            refine ex_getRx ok_X12_leader (mi 73 rfl) rfl rfl (fk (MI_s J103) 0 rfl) (fr (MI_s J103) 14 rfl) (fk (MI_s J103) 15 rfl) (by decide) ?_
            refine ex_iload_n ok_X12_leader (mi 74 rfl) rfl ?_
            refine sm_iald ok_X12_leader (mi 75 rfl) (fk (MI_s J103) 15 rfl) (fn (MI_s J103) 15 rfl) rfl (by omega) (by decide) ?_
            obtain ⟨v104, hv104, ev104⟩ := vp_in_of (n := 17) (MI_bd J103 4 rfl (i := a10) (by omega)) (by decide)
            refine ex_top (w := nI v104) ev104 ?_
            refine ex_goto (tgt := 190) ok_X12_leader (mi 76 rfl) rfl ?_
            refine ex_iret ok_X12_leader (mi 78 rfl) rfl ?_
            exact ⟨_, rfl, ⟨_, rfl⟩, (MI_Rw J103 (fun l k => (Or.inl k)))⟩
        · skip
          refine ex_iconst ok_X12_leader (mi 18 rfl) ?_
          refine ex_iret ok_X12_leader (mi 19 rfl) rfl ?_
          exact ⟨_, rfl, ⟨_, rfl⟩, J101⟩
      · skip
        refine ex_iconst ok_X12_leader (mi 11 rfl) ?_
        refine ex_goto (tgt := 25) ok_X12_leader (mi 12 rfl) rfl ?_
        refine ex_iconst ok_X12_leader (mi 14 rfl) ?_
        refine ex_iconst ok_X12_leader (mi 15 rfl) ?_
        refine sm_V (As := [_, _, _]) ok_X12_leader (mi 16 rfl) rfl (s_ref hst (MI_s I)) rfl (fk (MI_s I) 0 rfl) rfl rfl (by decide) (by decide) (Nat.le_of_ble_eq_true rfl) (by decide) RF_no (fun z105 g109 p106 => ?_)
        obtain ⟨b107, v108, eb107, egb107, hrb107⟩ := p106
        cases eb107
        subst egb107
        have J110 := MI_I (f := 1200) (v := v108) I (by decide)
        refine ex_if_eq (tgt := 35) ok_X12_leader (mi 17 rfl) rfl (fun h30 => ?_) (fun h30 => ?_)
        · skip
          obtain rfl : b107 = nI 0 := h30.trans (by decide)
          have q111 := hrb107.resolve_right (fun q => absurd q.1 (by decide))
          refine ex_aload_n ok_X12_leader (mi 20 rfl) rfl ?_
          refine ex_getRx ok_X12_leader (mi 21 rfl) rfl rfl (fk (MI_s J110) 0 rfl) (fr (MI_s J110) 1 rfl) (fk (MI_s J110) 2 rfl) (by decide) ?_
          refine ex_iload_n ok_X12_leader (mi 22 rfl) rfl ?_
          refine sm_iald ok_X12_leader (mi 23 rfl) (fk (MI_s J110) 2 rfl) (fn (MI_s J110) 2 rfl) rfl (by omega) (by decide) ?_
          refine ex_iconst ok_X12_leader (mi 24 rfl) ?_
          refine ex_icmp_ne (tgt := 49) ok_X12_leader (mi 25 rfl) rfl (fun h42 => ?_) (fun h42 => ?_)
          · skip
            refine ex_iconst ok_X12_leader (mi 28 rfl) ?_
            refine ex_istore_n ok_X12_leader (mi 29 rfl) ?_
            refine ex_iload_n ok_X12_leader (mi 30 rfl) rfl ?_
            refine ex_tblk (tgt := 191) ok_X12_leader (mi 31 rfl) (by decide) (by decide) (by decide) (by decide) ?_
            refine ex_iload_n ok_X12_leader (mi 79 rfl) rfl ?_
            refine ex_if_eq (tgt := 204) ok_X12_leader (mi 80 rfl) rfl (fun _ => ?_) (fun hn => absurd (by decide) hn)
            refine ex_iconst ok_X12_leader (mi 86 rfl) ?_
            refine ex_iret ok_X12_leader (mi 87 rfl) rfl ?_
            exact ⟨_, rfl, ⟨_, rfl⟩, J110⟩
          · skip
            have J112 := MI_Ra (l := a10) J110 (by rw [h42]; decide)
            refine ex_iconst ok_X12_leader (mi 26 rfl) ?_
            refine ex_goto (tgt := 50) ok_X12_leader (mi 27 rfl) rfl ?_
            refine ex_istore_n ok_X12_leader (mi 29 rfl) ?_
            refine ex_iload_n ok_X12_leader (mi 30 rfl) rfl ?_
            refine ex_tblk (tgt := 191) ok_X12_leader (mi 31 rfl) (by decide) (by decide) (by decide) (by decide) ?_
            refine ex_iload_n ok_X12_leader (mi 79 rfl) rfl ?_
            refine ex_if_eq (tgt := 204) ok_X12_leader (mi 80 rfl) rfl (fun hn => absurd hn (by decide)) (fun _ => ?_)
            refine ex_aload_n ok_X12_leader (mi 81 rfl) rfl ?_
            refine ex_getRx ok_X12_leader (mi 82 rfl) rfl rfl (fk (MI_s J112) 0 rfl) (fr (MI_s J112) 10 rfl) (fk (MI_s J112) 11 rfl) (by decide) ?_
            refine ex_iload_n ok_X12_leader (mi 83 rfl) rfl ?_
            refine sm_iald ok_X12_leader (mi 84 rfl) (fk (MI_s J112) 11 rfl) (fn (MI_s J112) 11 rfl) rfl (by omega) (by decide) ?_
            obtain ⟨v113, hv113, ev113⟩ := vp_in_of (n := 17) (MI_bd J112 2 rfl (i := a10) (by omega)) (by decide)
            refine ex_top (w := nI v113) ev113 ?_
            refine ex_goto (tgt := 205) ok_X12_leader (mi 85 rfl) rfl ?_
            refine ex_iret ok_X12_leader (mi 87 rfl) rfl ?_
            exact ⟨_, rfl, ⟨_, rfl⟩, (MI_Rw J112 (fun l k => (Or.inl k)))⟩
        · skip
          refine ex_iconst ok_X12_leader (mi 18 rfl) ?_
          refine ex_iret ok_X12_leader (mi 19 rfl) rfl ?_
          exact ⟨_, rfl, ⟨_, rfl⟩, J110⟩
      · skip
        refine ex_iconst ok_X12_leader (mi 11 rfl) ?_
        refine ex_goto (tgt := 25) ok_X12_leader (mi 12 rfl) rfl ?_
        refine ex_iconst ok_X12_leader (mi 14 rfl) ?_
        refine ex_iconst ok_X12_leader (mi 15 rfl) ?_
        refine sm_V (As := [_, _, _]) ok_X12_leader (mi 16 rfl) rfl (s_ref hst (MI_s I)) rfl (fk (MI_s I) 0 rfl) rfl rfl (by decide) (by decide) (Nat.le_of_ble_eq_true rfl) (by decide) RF_no (fun z114 g118 p115 => ?_)
        obtain ⟨b116, v117, eb116, egb116, hrb116⟩ := p115
        cases eb116
        subst egb116
        have J119 := MI_I (f := 1200) (v := v117) I (by decide)
        refine ex_if_eq (tgt := 35) ok_X12_leader (mi 17 rfl) rfl (fun h30 => ?_) (fun h30 => ?_)
        · skip
          obtain rfl : b116 = nI 0 := h30.trans (by decide)
          have q120 := hrb116.resolve_right (fun q => absurd q.1 (by decide))
          refine ex_aload_n ok_X12_leader (mi 20 rfl) rfl ?_
          refine ex_getRx ok_X12_leader (mi 21 rfl) rfl rfl (fk (MI_s J119) 0 rfl) (fr (MI_s J119) 1 rfl) (fk (MI_s J119) 2 rfl) (by decide) ?_
          refine ex_iload_n ok_X12_leader (mi 22 rfl) rfl ?_
          refine sm_iald ok_X12_leader (mi 23 rfl) (fk (MI_s J119) 2 rfl) (fn (MI_s J119) 2 rfl) rfl (by omega) (by decide) ?_
          refine ex_iconst ok_X12_leader (mi 24 rfl) ?_
          refine ex_icmp_ne (tgt := 49) ok_X12_leader (mi 25 rfl) rfl (fun h42 => ?_) (fun h42 => ?_)
          · skip
            refine ex_iconst ok_X12_leader (mi 28 rfl) ?_
            refine ex_istore_n ok_X12_leader (mi 29 rfl) ?_
            refine ex_iload_n ok_X12_leader (mi 30 rfl) rfl ?_
            refine ex_tblk (tgt := 206) ok_X12_leader (mi 31 rfl) (by decide) (by decide) (by decide) (by decide) ?_
            refine ex_iload_n ok_X12_leader (mi 88 rfl) rfl ?_
            refine ex_if_eq (tgt := 218) ok_X12_leader (mi 89 rfl) rfl (fun _ => ?_) (fun hn => absurd (by decide) hn)
            refine ex_iconst ok_X12_leader (mi 94 rfl) ?_
            refine ex_iret ok_X12_leader (mi 95 rfl) rfl ?_
            exact ⟨_, rfl, ⟨_, rfl⟩, J119⟩
          · skip
            have J121 := MI_Ra (l := a10) J119 (by rw [h42]; decide)
            refine ex_iconst ok_X12_leader (mi 26 rfl) ?_
            refine ex_goto (tgt := 50) ok_X12_leader (mi 27 rfl) rfl ?_
            refine ex_istore_n ok_X12_leader (mi 29 rfl) ?_
            refine ex_iload_n ok_X12_leader (mi 30 rfl) rfl ?_
            refine ex_tblk (tgt := 206) ok_X12_leader (mi 31 rfl) (by decide) (by decide) (by decide) (by decide) ?_
            refine ex_iload_n ok_X12_leader (mi 88 rfl) rfl ?_
            refine ex_if_eq (tgt := 218) ok_X12_leader (mi 89 rfl) rfl (fun hn => absurd hn (by decide)) (fun _ => ?_)
            refine ex_aload_n ok_X12_leader (mi 90 rfl) rfl ?_
            refine ex_iload_n ok_X12_leader (mi 91 rfl) rfl ?_
            refine sm_V (As := [_]) ok_X12_leader (mi 92 rfl) rfl (s_firm hst J121 (by omega)) rfl (fk (MI_s J121) 0 rfl) rfl rfl (by decide) (by decide) (Nat.le_of_ble_eq_true rfl) (by decide) SM_no (fun z122 g124 p123 => ?_)
            obtain ⟨u126, eu126, u126p, J125⟩ := p123
            cases eu126
            obtain ⟨v127, hv127, rfl⟩ := u126p
            refine ex_goto (tgt := 219) ok_X12_leader (mi 93 rfl) rfl ?_
            refine ex_iret ok_X12_leader (mi 95 rfl) rfl ?_
            exact ⟨_, rfl, ⟨_, rfl⟩, (MI_Rw J125 (fun l k => (Or.inl k)))⟩
        · skip
          refine ex_iconst ok_X12_leader (mi 18 rfl) ?_
          refine ex_iret ok_X12_leader (mi 19 rfl) rfl ?_
          exact ⟨_, rfl, ⟨_, rfl⟩, J119⟩
      · skip
        refine ex_iconst ok_X12_leader (mi 11 rfl) ?_
        refine ex_goto (tgt := 25) ok_X12_leader (mi 12 rfl) rfl ?_
        refine ex_iconst ok_X12_leader (mi 14 rfl) ?_
        refine ex_iconst ok_X12_leader (mi 15 rfl) ?_
        refine sm_V (As := [_, _, _]) ok_X12_leader (mi 16 rfl) rfl (s_ref hst (MI_s I)) rfl (fk (MI_s I) 0 rfl) rfl rfl (by decide) (by decide) (Nat.le_of_ble_eq_true rfl) (by decide) RF_no (fun z128 g132 p129 => ?_)
        obtain ⟨b130, v131, eb130, egb130, hrb130⟩ := p129
        cases eb130
        subst egb130
        have J133 := MI_I (f := 1200) (v := v131) I (by decide)
        refine ex_if_eq (tgt := 35) ok_X12_leader (mi 17 rfl) rfl (fun h30 => ?_) (fun h30 => ?_)
        · skip
          obtain rfl : b130 = nI 0 := h30.trans (by decide)
          have q134 := hrb130.resolve_right (fun q => absurd q.1 (by decide))
          refine ex_aload_n ok_X12_leader (mi 20 rfl) rfl ?_
          refine ex_getRx ok_X12_leader (mi 21 rfl) rfl rfl (fk (MI_s J133) 0 rfl) (fr (MI_s J133) 1 rfl) (fk (MI_s J133) 2 rfl) (by decide) ?_
          refine ex_iload_n ok_X12_leader (mi 22 rfl) rfl ?_
          refine sm_iald ok_X12_leader (mi 23 rfl) (fk (MI_s J133) 2 rfl) (fn (MI_s J133) 2 rfl) rfl (by omega) (by decide) ?_
          refine ex_iconst ok_X12_leader (mi 24 rfl) ?_
          refine ex_icmp_ne (tgt := 49) ok_X12_leader (mi 25 rfl) rfl (fun h42 => ?_) (fun h42 => ?_)
          · skip
            refine ex_iconst ok_X12_leader (mi 28 rfl) ?_
            refine ex_istore_n ok_X12_leader (mi 29 rfl) ?_
            refine ex_iload_n ok_X12_leader (mi 30 rfl) rfl ?_
            refine ex_tblk (tgt := 220) ok_X12_leader (mi 31 rfl) (by decide) (by decide) (by decide) (by decide) ?_
            refine ex_aload_n ok_X12_leader (mi 96 rfl) rfl ?_
            refine ex_getRx ok_X12_leader (mi 97 rfl) rfl rfl (fk (MI_s J133) 0 rfl) (fr (MI_s J133) 19 rfl) (fk (MI_s J133) 20 rfl) (by decide) ?_
            refine ex_iload_n ok_X12_leader (mi 98 rfl) rfl ?_
            refine sm_iald ok_X12_leader (mi 99 rfl) (fk (MI_s J133) 20 rfl) (fn (MI_s J133) 20 rfl) rfl (by omega) (by decide) ?_
            refine ex_gen (fun w135 => ?_)
            refine ex_iret ok_X12_leader (mi 100 rfl) rfl ?_
            exact ⟨_, rfl, ⟨_, rfl⟩, J133⟩
          · skip
            have J136 := MI_Ra (l := a10) J133 (by rw [h42]; decide)
            refine ex_iconst ok_X12_leader (mi 26 rfl) ?_
            refine ex_goto (tgt := 50) ok_X12_leader (mi 27 rfl) rfl ?_
            refine ex_istore_n ok_X12_leader (mi 29 rfl) ?_
            refine ex_iload_n ok_X12_leader (mi 30 rfl) rfl ?_
            refine ex_tblk (tgt := 220) ok_X12_leader (mi 31 rfl) (by decide) (by decide) (by decide) (by decide) ?_
            refine ex_aload_n ok_X12_leader (mi 96 rfl) rfl ?_
            refine ex_getRx ok_X12_leader (mi 97 rfl) rfl rfl (fk (MI_s J136) 0 rfl) (fr (MI_s J136) 19 rfl) (fk (MI_s J136) 20 rfl) (by decide) ?_
            refine ex_iload_n ok_X12_leader (mi 98 rfl) rfl ?_
            refine sm_iald ok_X12_leader (mi 99 rfl) (fk (MI_s J136) 20 rfl) (fn (MI_s J136) 20 rfl) rfl (by omega) (by decide) ?_
            refine ex_gen (fun w137 => ?_)
            refine ex_iret ok_X12_leader (mi 100 rfl) rfl ?_
            exact ⟨_, rfl, ⟨_, rfl⟩, (MI_Rw J136 (fun l k => (Or.inl k)))⟩
        · skip
          refine ex_iconst ok_X12_leader (mi 18 rfl) ?_
          refine ex_iret ok_X12_leader (mi 19 rfl) rfl ?_
          exact ⟨_, rfl, ⟨_, rfl⟩, J133⟩
      · skip
        refine ex_iconst ok_X12_leader (mi 11 rfl) ?_
        refine ex_goto (tgt := 25) ok_X12_leader (mi 12 rfl) rfl ?_
        refine ex_iconst ok_X12_leader (mi 14 rfl) ?_
        refine ex_iconst ok_X12_leader (mi 15 rfl) ?_
        refine sm_V (As := [_, _, _]) ok_X12_leader (mi 16 rfl) rfl (s_ref hst (MI_s I)) rfl (fk (MI_s I) 0 rfl) rfl rfl (by decide) (by decide) (Nat.le_of_ble_eq_true rfl) (by decide) RF_no (fun z138 g142 p139 => ?_)
        obtain ⟨b140, v141, eb140, egb140, hrb140⟩ := p139
        cases eb140
        subst egb140
        have J143 := MI_I (f := 1200) (v := v141) I (by decide)
        refine ex_if_eq (tgt := 35) ok_X12_leader (mi 17 rfl) rfl (fun h30 => ?_) (fun h30 => ?_)
        · skip
          obtain rfl : b140 = nI 0 := h30.trans (by decide)
          have q144 := hrb140.resolve_right (fun q => absurd q.1 (by decide))
          refine ex_aload_n ok_X12_leader (mi 20 rfl) rfl ?_
          refine ex_getRx ok_X12_leader (mi 21 rfl) rfl rfl (fk (MI_s J143) 0 rfl) (fr (MI_s J143) 1 rfl) (fk (MI_s J143) 2 rfl) (by decide) ?_
          refine ex_iload_n ok_X12_leader (mi 22 rfl) rfl ?_
          refine sm_iald ok_X12_leader (mi 23 rfl) (fk (MI_s J143) 2 rfl) (fn (MI_s J143) 2 rfl) rfl (by omega) (by decide) ?_
          refine ex_iconst ok_X12_leader (mi 24 rfl) ?_
          refine ex_icmp_ne (tgt := 49) ok_X12_leader (mi 25 rfl) rfl (fun h42 => ?_) (fun h42 => ?_)
          · skip
            refine ex_iconst ok_X12_leader (mi 28 rfl) ?_
            refine ex_istore_n ok_X12_leader (mi 29 rfl) ?_
            refine ex_iload_n ok_X12_leader (mi 30 rfl) rfl ?_
            refine ex_tblk (tgt := 227) ok_X12_leader (mi 31 rfl) (by decide) (by decide) (by decide) (by decide) ?_
            refine ex_aload_n ok_X12_leader (mi 101 rfl) rfl ?_
            refine ex_getRx ok_X12_leader (mi 102 rfl) rfl rfl (fk (MI_s J143) 0 rfl) (fr (MI_s J143) 25 rfl) (fk (MI_s J143) 26 rfl) (by decide) ?_
            refine ex_iload_n ok_X12_leader (mi 103 rfl) rfl ?_
            refine sm_iald ok_X12_leader (mi 104 rfl) (fk (MI_s J143) 26 rfl) (fn (MI_s J143) 26 rfl) rfl (by omega) (by decide) ?_
            refine ex_gen (fun w145 => ?_)
            refine ex_iret ok_X12_leader (mi 105 rfl) rfl ?_
            exact ⟨_, rfl, ⟨_, rfl⟩, J143⟩
          · skip
            have J146 := MI_Ra (l := a10) J143 (by rw [h42]; decide)
            refine ex_iconst ok_X12_leader (mi 26 rfl) ?_
            refine ex_goto (tgt := 50) ok_X12_leader (mi 27 rfl) rfl ?_
            refine ex_istore_n ok_X12_leader (mi 29 rfl) ?_
            refine ex_iload_n ok_X12_leader (mi 30 rfl) rfl ?_
            refine ex_tblk (tgt := 227) ok_X12_leader (mi 31 rfl) (by decide) (by decide) (by decide) (by decide) ?_
            refine ex_aload_n ok_X12_leader (mi 101 rfl) rfl ?_
            refine ex_getRx ok_X12_leader (mi 102 rfl) rfl rfl (fk (MI_s J146) 0 rfl) (fr (MI_s J146) 25 rfl) (fk (MI_s J146) 26 rfl) (by decide) ?_
            refine ex_iload_n ok_X12_leader (mi 103 rfl) rfl ?_
            refine sm_iald ok_X12_leader (mi 104 rfl) (fk (MI_s J146) 26 rfl) (fn (MI_s J146) 26 rfl) rfl (by omega) (by decide) ?_
            refine ex_gen (fun w147 => ?_)
            refine ex_iret ok_X12_leader (mi 105 rfl) rfl ?_
            exact ⟨_, rfl, ⟨_, rfl⟩, (MI_Rw J146 (fun l k => (Or.inl k)))⟩
        · skip
          refine ex_iconst ok_X12_leader (mi 18 rfl) ?_
          refine ex_iret ok_X12_leader (mi 19 rfl) rfl ?_
          exact ⟨_, rfl, ⟨_, rfl⟩, J143⟩
      · skip
        refine ex_iconst ok_X12_leader (mi 11 rfl) ?_
        refine ex_goto (tgt := 25) ok_X12_leader (mi 12 rfl) rfl ?_
        refine ex_iconst ok_X12_leader (mi 14 rfl) ?_
        refine ex_iconst ok_X12_leader (mi 15 rfl) ?_
        refine sm_V (As := [_, _, _]) ok_X12_leader (mi 16 rfl) rfl (s_ref hst (MI_s I)) rfl (fk (MI_s I) 0 rfl) rfl rfl (by decide) (by decide) (Nat.le_of_ble_eq_true rfl) (by decide) RF_no (fun z148 g152 p149 => ?_)
        obtain ⟨b150, v151, eb150, egb150, hrb150⟩ := p149
        cases eb150
        subst egb150
        have J153 := MI_I (f := 1200) (v := v151) I (by decide)
        refine ex_if_eq (tgt := 35) ok_X12_leader (mi 17 rfl) rfl (fun h30 => ?_) (fun h30 => ?_)
        · skip
          obtain rfl : b150 = nI 0 := h30.trans (by decide)
          have q154 := hrb150.resolve_right (fun q => absurd q.1 (by decide))
          refine ex_aload_n ok_X12_leader (mi 20 rfl) rfl ?_
          refine ex_getRx ok_X12_leader (mi 21 rfl) rfl rfl (fk (MI_s J153) 0 rfl) (fr (MI_s J153) 1 rfl) (fk (MI_s J153) 2 rfl) (by decide) ?_
          refine ex_iload_n ok_X12_leader (mi 22 rfl) rfl ?_
          refine sm_iald ok_X12_leader (mi 23 rfl) (fk (MI_s J153) 2 rfl) (fn (MI_s J153) 2 rfl) rfl (by omega) (by decide) ?_
          refine ex_iconst ok_X12_leader (mi 24 rfl) ?_
          refine ex_icmp_ne (tgt := 49) ok_X12_leader (mi 25 rfl) rfl (fun h42 => ?_) (fun h42 => ?_)
          · skip
            refine ex_iconst ok_X12_leader (mi 28 rfl) ?_
            refine ex_istore_n ok_X12_leader (mi 29 rfl) ?_
            refine ex_iload_n ok_X12_leader (mi 30 rfl) rfl ?_
            refine ex_tblk (tgt := 234) ok_X12_leader (mi 31 rfl) (by decide) (by decide) (by decide) (by decide) ?_
            refine ex_aload_n ok_X12_leader (mi 106 rfl) rfl ?_
            refine ex_getRx ok_X12_leader (mi 107 rfl) rfl rfl (fk (MI_s J153) 0 rfl) (fr (MI_s J153) 26 rfl) (fk (MI_s J153) 27 rfl) (by decide) ?_
            refine ex_iload_n ok_X12_leader (mi 108 rfl) rfl ?_
            refine sm_iald ok_X12_leader (mi 109 rfl) (fk (MI_s J153) 27 rfl) (fn (MI_s J153) 27 rfl) rfl (by omega) (by decide) ?_
            obtain ⟨v155, hv155, ev155⟩ := vp_in_of (n := 512) (MI_bd J153 6 rfl (i := a10) (by omega)) (by decide)
            refine ex_top (w := nI v155) ev155 ?_
            refine ex_iret ok_X12_leader (mi 110 rfl) rfl ?_
            exact ⟨_, rfl, ⟨_, rfl⟩, J153⟩
          · skip
            have J156 := MI_Ra (l := a10) J153 (by rw [h42]; decide)
            refine ex_iconst ok_X12_leader (mi 26 rfl) ?_
            refine ex_goto (tgt := 50) ok_X12_leader (mi 27 rfl) rfl ?_
            refine ex_istore_n ok_X12_leader (mi 29 rfl) ?_
            refine ex_iload_n ok_X12_leader (mi 30 rfl) rfl ?_
            refine ex_tblk (tgt := 234) ok_X12_leader (mi 31 rfl) (by decide) (by decide) (by decide) (by decide) ?_
            refine ex_aload_n ok_X12_leader (mi 106 rfl) rfl ?_
            refine ex_getRx ok_X12_leader (mi 107 rfl) rfl rfl (fk (MI_s J156) 0 rfl) (fr (MI_s J156) 26 rfl) (fk (MI_s J156) 27 rfl) (by decide) ?_
            refine ex_iload_n ok_X12_leader (mi 108 rfl) rfl ?_
            refine sm_iald ok_X12_leader (mi 109 rfl) (fk (MI_s J156) 27 rfl) (fn (MI_s J156) 27 rfl) rfl (by omega) (by decide) ?_
            obtain ⟨v157, hv157, ev157⟩ := vp_in_of (n := 512) (MI_bd J156 6 rfl (i := a10) (by omega)) (by decide)
            refine ex_top (w := nI v157) ev157 ?_
            refine ex_iret ok_X12_leader (mi 110 rfl) rfl ?_
            exact ⟨_, rfl, ⟨_, rfl⟩, (MI_Rw J156 (fun l k => (Or.inl k)))⟩
        · skip
          refine ex_iconst ok_X12_leader (mi 18 rfl) ?_
          refine ex_iret ok_X12_leader (mi 19 rfl) rfl ?_
          exact ⟨_, rfl, ⟨_, rfl⟩, J153⟩
      · skip
        refine ex_iconst ok_X12_leader (mi 11 rfl) ?_
        refine ex_goto (tgt := 25) ok_X12_leader (mi 12 rfl) rfl ?_
        refine ex_iconst ok_X12_leader (mi 14 rfl) ?_
        refine ex_iconst ok_X12_leader (mi 15 rfl) ?_
        refine sm_V (As := [_, _, _]) ok_X12_leader (mi 16 rfl) rfl (s_ref hst (MI_s I)) rfl (fk (MI_s I) 0 rfl) rfl rfl (by decide) (by decide) (Nat.le_of_ble_eq_true rfl) (by decide) RF_no (fun z158 g162 p159 => ?_)
        obtain ⟨b160, v161, eb160, egb160, hrb160⟩ := p159
        cases eb160
        subst egb160
        have J163 := MI_I (f := 1200) (v := v161) I (by decide)
        refine ex_if_eq (tgt := 35) ok_X12_leader (mi 17 rfl) rfl (fun h30 => ?_) (fun h30 => ?_)
        · skip
          obtain rfl : b160 = nI 0 := h30.trans (by decide)
          have q164 := hrb160.resolve_right (fun q => absurd q.1 (by decide))
          refine ex_aload_n ok_X12_leader (mi 20 rfl) rfl ?_
          refine ex_getRx ok_X12_leader (mi 21 rfl) rfl rfl (fk (MI_s J163) 0 rfl) (fr (MI_s J163) 1 rfl) (fk (MI_s J163) 2 rfl) (by decide) ?_
          refine ex_iload_n ok_X12_leader (mi 22 rfl) rfl ?_
          refine sm_iald ok_X12_leader (mi 23 rfl) (fk (MI_s J163) 2 rfl) (fn (MI_s J163) 2 rfl) rfl (by omega) (by decide) ?_
          refine ex_iconst ok_X12_leader (mi 24 rfl) ?_
          refine ex_icmp_ne (tgt := 49) ok_X12_leader (mi 25 rfl) rfl (fun h42 => ?_) (fun h42 => ?_)
          · skip
            refine ex_iconst ok_X12_leader (mi 28 rfl) ?_
            refine ex_istore_n ok_X12_leader (mi 29 rfl) ?_
            refine ex_iload_n ok_X12_leader (mi 30 rfl) rfl ?_
            refine ex_tblk (tgt := 241) ok_X12_leader (mi 31 rfl) (by decide) (by decide) (by decide) (by decide) ?_
            refine ex_aload_n ok_X12_leader (mi 111 rfl) rfl ?_
            refine ex_getRx ok_X12_leader (mi 112 rfl) rfl rfl (fk (MI_s J163) 0 rfl) (fr (MI_s J163) 19 rfl) (fk (MI_s J163) 20 rfl) (by decide) ?_
            refine ex_iload_n ok_X12_leader (mi 113 rfl) rfl ?_
            refine sm_iald ok_X12_leader (mi 114 rfl) (fk (MI_s J163) 20 rfl) (fn (MI_s J163) 20 rfl) rfl (by omega) (by decide) ?_
            refine ex_gen (fun w165 => ?_)
            refine ex_iconst ok_X12_leader (mi 115 rfl) ?_
            refine ex_icmp_ne (tgt := 260) ok_X12_leader (mi 116 rfl) rfl (fun h248 => ?_) (fun h248 => ?_)
            · skip
              refine ex_aload_n ok_X12_leader (mi 122 rfl) rfl ?_
              refine ex_getRx ok_X12_leader (mi 123 rfl) rfl rfl (fk (MI_s J163) 0 rfl) (fr (MI_s J163) 9 rfl) (fk (MI_s J163) 10 rfl) (by decide) ?_
              refine ex_iload_n ok_X12_leader (mi 124 rfl) rfl ?_
              refine sm_iald ok_X12_leader (mi 125 rfl) (fk (MI_s J163) 10 rfl) (fn (MI_s J163) 10 rfl) rfl (by omega) (by decide) ?_
              refine ex_gen (fun w166 => ?_)
              refine ex_iret ok_X12_leader (mi 126 rfl) rfl ?_
              exact ⟨_, rfl, ⟨_, rfl⟩, J163⟩
            · skip
              refine ex_aload_n ok_X12_leader (mi 117 rfl) rfl ?_
              refine ex_getRx ok_X12_leader (mi 118 rfl) rfl rfl (fk (MI_s J163) 0 rfl) (fr (MI_s J163) 24 rfl) (fk (MI_s J163) 25 rfl) (by decide) ?_
              refine ex_iload_n ok_X12_leader (mi 119 rfl) rfl ?_
              refine sm_iald ok_X12_leader (mi 120 rfl) (fk (MI_s J163) 25 rfl) (fn (MI_s J163) 25 rfl) rfl (by omega) (by decide) ?_
              refine ex_gen (fun w167 => ?_)
              refine ex_goto (tgt := 266) ok_X12_leader (mi 121 rfl) rfl ?_
              refine ex_iret ok_X12_leader (mi 126 rfl) rfl ?_
              exact ⟨_, rfl, ⟨_, rfl⟩, J163⟩
          · skip
            have J168 := MI_Ra (l := a10) J163 (by rw [h42]; decide)
            refine ex_iconst ok_X12_leader (mi 26 rfl) ?_
            refine ex_goto (tgt := 50) ok_X12_leader (mi 27 rfl) rfl ?_
            refine ex_istore_n ok_X12_leader (mi 29 rfl) ?_
            refine ex_iload_n ok_X12_leader (mi 30 rfl) rfl ?_
            refine ex_tblk (tgt := 241) ok_X12_leader (mi 31 rfl) (by decide) (by decide) (by decide) (by decide) ?_
            refine ex_aload_n ok_X12_leader (mi 111 rfl) rfl ?_
            refine ex_getRx ok_X12_leader (mi 112 rfl) rfl rfl (fk (MI_s J168) 0 rfl) (fr (MI_s J168) 19 rfl) (fk (MI_s J168) 20 rfl) (by decide) ?_
            refine ex_iload_n ok_X12_leader (mi 113 rfl) rfl ?_
            refine sm_iald ok_X12_leader (mi 114 rfl) (fk (MI_s J168) 20 rfl) (fn (MI_s J168) 20 rfl) rfl (by omega) (by decide) ?_
            refine ex_gen (fun w169 => ?_)
            refine ex_iconst ok_X12_leader (mi 115 rfl) ?_
            refine ex_icmp_ne (tgt := 260) ok_X12_leader (mi 116 rfl) rfl (fun h248 => ?_) (fun h248 => ?_)
            · skip
              refine ex_aload_n ok_X12_leader (mi 122 rfl) rfl ?_
              refine ex_getRx ok_X12_leader (mi 123 rfl) rfl rfl (fk (MI_s J168) 0 rfl) (fr (MI_s J168) 9 rfl) (fk (MI_s J168) 10 rfl) (by decide) ?_
              refine ex_iload_n ok_X12_leader (mi 124 rfl) rfl ?_
              refine sm_iald ok_X12_leader (mi 125 rfl) (fk (MI_s J168) 10 rfl) (fn (MI_s J168) 10 rfl) rfl (by omega) (by decide) ?_
              refine ex_gen (fun w170 => ?_)
              refine ex_iret ok_X12_leader (mi 126 rfl) rfl ?_
              exact ⟨_, rfl, ⟨_, rfl⟩, (MI_Rw J168 (fun l k => (Or.inl k)))⟩
            · skip
              refine ex_aload_n ok_X12_leader (mi 117 rfl) rfl ?_
              refine ex_getRx ok_X12_leader (mi 118 rfl) rfl rfl (fk (MI_s J168) 0 rfl) (fr (MI_s J168) 24 rfl) (fk (MI_s J168) 25 rfl) (by decide) ?_
              refine ex_iload_n ok_X12_leader (mi 119 rfl) rfl ?_
              refine sm_iald ok_X12_leader (mi 120 rfl) (fk (MI_s J168) 25 rfl) (fn (MI_s J168) 25 rfl) rfl (by omega) (by decide) ?_
              refine ex_gen (fun w171 => ?_)
              refine ex_goto (tgt := 266) ok_X12_leader (mi 121 rfl) rfl ?_
              refine ex_iret ok_X12_leader (mi 126 rfl) rfl ?_
              exact ⟨_, rfl, ⟨_, rfl⟩, (MI_Rw J168 (fun l k => (Or.inl k)))⟩
        · skip
          refine ex_iconst ok_X12_leader (mi 18 rfl) ?_
          refine ex_iret ok_X12_leader (mi 19 rfl) rfl ?_
          exact ⟨_, rfl, ⟨_, rfl⟩, J163⟩
theorem s_X12_slot {G : GE} (hst : (ge_l G).stackTraces = false) {y c : Nat} {D : UT} {R : Nat → Prop} {g : GT} (I : MI y D c R g) {p0 : Int32} {p1 : Int32} {p2 : Int32} : ex_M G 2 0 0 my_X12_slot [.ref y, .int p0, .int p1, .int p2] g (SM y D c R pI) := by
  refine ex_M_of ok_X12_slot cw_X12_slot rfl hst (Nat.le_of_ble_eq_true rfl) ?_
  refine ex_aload_n ok_X12_slot (mi 0 rfl) rfl ?_
  refine ex_iload_n ok_X12_slot (mi 1 rfl) rfl ?_
  refine ex_iconst ok_X12_slot (mi 2 rfl) ?_
  refine ex_iconst ok_X12_slot (mi 3 rfl) ?_
  refine sf_Sp (As := [_, _, _]) ok_X12_slot (mi 4 rfl) rfl (s_in hst) rfl rfl rfl (by decide) (Nat.le_of_ble_eq_true rfl) (by decide) (fun z1 p2 => ?_)
  obtain ⟨b3, rfl, hb3⟩ := p2
  refine ex_if_eq (tgt := 33) ok_X12_slot (mi 5 rfl) rfl (fun h7 => ?_) (fun h7 => ?_)
  · skip
    obtain rfl : b3 = nI 0 := h7.trans (by decide)
    refine ex_iconst ok_X12_slot (mi 18 rfl) ?_
    refine ex_iconst ok_X12_slot (mi 19 rfl) ?_
    refine ex_iconst ok_X12_slot (mi 20 rfl) ?_
    refine sm_V (As := [_, _, _]) ok_X12_slot (mi 21 rfl) rfl (s_ref hst (MI_s I)) rfl (fk (MI_s I) 0 rfl) rfl rfl (by decide) (by decide) (Nat.le_of_ble_eq_true rfl) (by decide) RF_no (fun z4 g8 p5 => ?_)
    obtain ⟨b6, v7, eb6, egb6, hrb6⟩ := p5
    cases eb6
    subst egb6
    have J9 := MI_I (f := 1200) (v := v7) I (by decide)
    obtain rfl : b6 = nI 1 := hrb6.elim (fun q => absurd (show (nI 0 : Int32) = 0 by decide) q.2.1) (fun q => q.1.trans (by decide))
    refine ex_if_eq (tgt := 44) ok_X12_slot (mi 22 rfl) rfl (fun hn => absurd hn (by decide)) (fun _ => ?_)
    refine ex_iconst ok_X12_slot (mi 23 rfl) ?_
    refine ex_iret ok_X12_slot (mi 24 rfl) rfl ?_
    exact ⟨_, rfl, ⟨_, rfl⟩, J9⟩
  · skip
    obtain ⟨eb3, lb3, ub3⟩ := hb3.resolve_left (fun q => h7 q.1)
    obtain rfl : b3 = nI 1 := eb3.trans (by decide)
    obtain ⟨a10, ha10, rfl⟩ := in_n (n := 2) lb3 ub3 (by decide) rfl (by decide)
    refine ex_iload_n ok_X12_slot (mi 6 rfl) rfl ?_
    refine ex_iconst ok_X12_slot (mi 7 rfl) ?_
    refine ex_bipush ok_X12_slot (mi 8 rfl) ?_
    refine sf_Sp (As := [_, _, _]) ok_X12_slot (mi 9 rfl) rfl (s_in hst) rfl rfl rfl (by decide) (Nat.le_of_ble_eq_true rfl) (by decide) (fun z11 p12 => ?_)
    obtain ⟨b13, rfl, hb13⟩ := p12
    refine ex_if_eq (tgt := 33) ok_X12_slot (mi 10 rfl) rfl (fun h17 => ?_) (fun h17 => ?_)
    · skip
      obtain rfl : b13 = nI 0 := h17.trans (by decide)
      refine ex_iconst ok_X12_slot (mi 18 rfl) ?_
      refine ex_iconst ok_X12_slot (mi 19 rfl) ?_
      refine ex_iconst ok_X12_slot (mi 20 rfl) ?_
      refine sm_V (As := [_, _, _]) ok_X12_slot (mi 21 rfl) rfl (s_ref hst (MI_s I)) rfl (fk (MI_s I) 0 rfl) rfl rfl (by decide) (by decide) (Nat.le_of_ble_eq_true rfl) (by decide) RF_no (fun z14 g18 p15 => ?_)
      obtain ⟨b16, v17, eb16, egb16, hrb16⟩ := p15
      cases eb16
      subst egb16
      have J19 := MI_I (f := 1200) (v := v17) I (by decide)
      obtain rfl : b16 = nI 1 := hrb16.elim (fun q => absurd (show (nI 0 : Int32) = 0 by decide) q.2.1) (fun q => q.1.trans (by decide))
      refine ex_if_eq (tgt := 44) ok_X12_slot (mi 22 rfl) rfl (fun hn => absurd hn (by decide)) (fun _ => ?_)
      refine ex_iconst ok_X12_slot (mi 23 rfl) ?_
      refine ex_iret ok_X12_slot (mi 24 rfl) rfl ?_
      exact ⟨_, rfl, ⟨_, rfl⟩, J19⟩
    · skip
      obtain ⟨eb13, lb13, ub13⟩ := hb13.resolve_left (fun q => h17 q.1)
      obtain rfl : b13 = nI 1 := eb13.trans (by decide)
      obtain ⟨a20, ha20, rfl⟩ := in_n (n := 15) lb13 ub13 (by decide) rfl (by decide)
      refine ex_iload_n ok_X12_slot (mi 11 rfl) rfl ?_
      refine ex_iconst ok_X12_slot (mi 12 rfl) ?_
      refine ex_iconst ok_X12_slot (mi 13 rfl) ?_
      refine sf_Sp (As := [_, _, _]) ok_X12_slot (mi 14 rfl) rfl (s_in hst) rfl rfl rfl (by decide) (Nat.le_of_ble_eq_true rfl) (by decide) (fun z21 p22 => ?_)
      obtain ⟨b23, rfl, hb23⟩ := p22
      refine ex_if_eq (tgt := 33) ok_X12_slot (mi 15 rfl) rfl (fun h26 => ?_) (fun h26 => ?_)
      · skip
        obtain rfl : b23 = nI 0 := h26.trans (by decide)
        refine ex_iconst ok_X12_slot (mi 18 rfl) ?_
        refine ex_iconst ok_X12_slot (mi 19 rfl) ?_
        refine ex_iconst ok_X12_slot (mi 20 rfl) ?_
        refine sm_V (As := [_, _, _]) ok_X12_slot (mi 21 rfl) rfl (s_ref hst (MI_s I)) rfl (fk (MI_s I) 0 rfl) rfl rfl (by decide) (by decide) (Nat.le_of_ble_eq_true rfl) (by decide) RF_no (fun z24 g28 p25 => ?_)
        obtain ⟨b26, v27, eb26, egb26, hrb26⟩ := p25
        cases eb26
        subst egb26
        have J29 := MI_I (f := 1200) (v := v27) I (by decide)
        obtain rfl : b26 = nI 1 := hrb26.elim (fun q => absurd (show (nI 0 : Int32) = 0 by decide) q.2.1) (fun q => q.1.trans (by decide))
        refine ex_if_eq (tgt := 44) ok_X12_slot (mi 22 rfl) rfl (fun hn => absurd hn (by decide)) (fun _ => ?_)
        refine ex_iconst ok_X12_slot (mi 23 rfl) ?_
        refine ex_iret ok_X12_slot (mi 24 rfl) rfl ?_
        exact ⟨_, rfl, ⟨_, rfl⟩, J29⟩
      · skip
        obtain ⟨eb23, lb23, ub23⟩ := hb23.resolve_left (fun q => h26 q.1)
        obtain rfl : b23 = nI 1 := eb23.trans (by decide)
        obtain ⟨a30, ha30, rfl⟩ := in_n (n := 3) lb23 ub23 (by decide) rfl (by decide)
        rcases (by omega : a30 = 0 ∨ a30 = 1 ∨ a30 = 2 ∨ a30 = 3) with rfl | rfl | rfl | rfl
        · skip
          refine ex_iconst ok_X12_slot (mi 16 rfl) ?_
          refine ex_goto (tgt := 34) ok_X12_slot (mi 17 rfl) rfl ?_
          refine ex_iconst ok_X12_slot (mi 19 rfl) ?_
          refine ex_iconst ok_X12_slot (mi 20 rfl) ?_
          refine sm_V (As := [_, _, _]) ok_X12_slot (mi 21 rfl) rfl (s_ref hst (MI_s I)) rfl (fk (MI_s I) 0 rfl) rfl rfl (by decide) (by decide) (Nat.le_of_ble_eq_true rfl) (by decide) RF_no (fun z31 g35 p32 => ?_)
          obtain ⟨b33, v34, eb33, egb33, hrb33⟩ := p32
          cases eb33
          subst egb33
          have J36 := MI_I (f := 1200) (v := v34) I (by decide)
          refine ex_if_eq (tgt := 44) ok_X12_slot (mi 22 rfl) rfl (fun h39 => ?_) (fun h39 => ?_)
          · skip
            obtain rfl : b33 = nI 0 := h39.trans (by decide)
            have q37 := hrb33.resolve_right (fun q => absurd q.1 (by decide))
            refine ex_aload_n ok_X12_slot (mi 25 rfl) rfl ?_
            refine ex_getRx ok_X12_slot (mi 26 rfl) rfl rfl (fk (MI_s J36) 0 rfl) (fr (MI_s J36) 1 rfl) (fk (MI_s J36) 2 rfl) (by decide) ?_
            refine ex_iload_n ok_X12_slot (mi 27 rfl) rfl ?_
            refine sm_iald ok_X12_slot (mi 28 rfl) (fk (MI_s J36) 2 rfl) (fn (MI_s J36) 2 rfl) rfl (by omega) (by decide) ?_
            refine ex_iconst ok_X12_slot (mi 29 rfl) ?_
            refine ex_icmp_ne (tgt := 58) ok_X12_slot (mi 30 rfl) rfl (fun h51 => ?_) (fun h51 => ?_)
            · skip
              refine ex_iconst ok_X12_slot (mi 33 rfl) ?_
              refine ex_istore ok_X12_slot (mi 34 rfl) ?_
              refine ex_bipush ok_X12_slot (mi 35 rfl) ?_
              refine ex_iload_n ok_X12_slot (mi 36 rfl) rfl ?_
              refine ex_imul ok_X12_slot (mi 37 rfl) ?_
              refine ex_top (w := (nI (16 * a10))) (nI_mulc rfl) ?_
              refine ex_iload_n ok_X12_slot (mi 38 rfl) rfl ?_
              refine ex_iadd ok_X12_slot (mi 39 rfl) ?_
              refine ex_top (w := (nI (16 * a10 + a20))) (nI_add _ _) ?_
              refine ex_istore ok_X12_slot (mi 40 rfl) ?_
              refine ex_iload_n ok_X12_slot (mi 41 rfl) rfl ?_
              refine ex_iconst ok_X12_slot (mi 42 rfl) ?_
              refine ex_icmp_ne (tgt := 93) ok_X12_slot (mi 43 rfl) rfl (fun _ => ?_) (fun hn => absurd hn (by decide))
              refine ex_iload ok_X12_slot (mi 53 rfl) rfl ?_
              refine ex_if_ne (tgt := 102) ok_X12_slot (mi 54 rfl) rfl (fun hn => absurd (by decide) hn) (fun _ => ?_)
              refine ex_iconst ok_X12_slot (mi 55 rfl) ?_
              refine ex_goto (tgt := 138) ok_X12_slot (mi 56 rfl) rfl ?_
              refine ex_iret ok_X12_slot (mi 76 rfl) rfl ?_
              exact ⟨_, rfl, ⟨_, rfl⟩, J36⟩
            · skip
              have J38 := MI_Ra (l := a10) J36 (by rw [h51]; decide)
              refine ex_iconst ok_X12_slot (mi 31 rfl) ?_
              refine ex_goto (tgt := 59) ok_X12_slot (mi 32 rfl) rfl ?_
              refine ex_istore ok_X12_slot (mi 34 rfl) ?_
              refine ex_bipush ok_X12_slot (mi 35 rfl) ?_
              refine ex_iload_n ok_X12_slot (mi 36 rfl) rfl ?_
              refine ex_imul ok_X12_slot (mi 37 rfl) ?_
              refine ex_top (w := (nI (16 * a10))) (nI_mulc rfl) ?_
              refine ex_iload_n ok_X12_slot (mi 38 rfl) rfl ?_
              refine ex_iadd ok_X12_slot (mi 39 rfl) ?_
              refine ex_top (w := (nI (16 * a10 + a20))) (nI_add _ _) ?_
              refine ex_istore ok_X12_slot (mi 40 rfl) ?_
              refine ex_iload_n ok_X12_slot (mi 41 rfl) rfl ?_
              refine ex_iconst ok_X12_slot (mi 42 rfl) ?_
              refine ex_icmp_ne (tgt := 93) ok_X12_slot (mi 43 rfl) rfl (fun _ => ?_) (fun hn => absurd hn (by decide))
              refine ex_iload ok_X12_slot (mi 53 rfl) rfl ?_
              refine ex_if_ne (tgt := 102) ok_X12_slot (mi 54 rfl) rfl (fun _ => ?_) (fun hn => absurd hn (by decide))
              refine ex_iload_n ok_X12_slot (mi 57 rfl) rfl ?_
              refine ex_if_ne (tgt := 116) ok_X12_slot (mi 58 rfl) rfl (fun hn => absurd (by decide) hn) (fun _ => ?_)
              refine ex_aload_n ok_X12_slot (mi 59 rfl) rfl ?_
              refine ex_getRx ok_X12_slot (mi 60 rfl) rfl rfl (fk (MI_s J38) 0 rfl) (fr (MI_s J38) 15 rfl) (fk (MI_s J38) 16 rfl) (by decide) ?_
              refine ex_iload ok_X12_slot (mi 61 rfl) rfl ?_
              refine sm_iald ok_X12_slot (mi 62 rfl) (fk (MI_s J38) 16 rfl) (fn (MI_s J38) 16 rfl) rfl (by omega) (by decide) ?_
              refine ex_gen (fun w39 => ?_)
              refine ex_goto (tgt := 138) ok_X12_slot (mi 63 rfl) rfl ?_
              refine ex_iret ok_X12_slot (mi 76 rfl) rfl ?_
              exact ⟨_, rfl, ⟨_, rfl⟩, (MI_Rw J38 (fun l k => (Or.inl k)))⟩
          · skip
            refine ex_iconst ok_X12_slot (mi 23 rfl) ?_
            refine ex_iret ok_X12_slot (mi 24 rfl) rfl ?_
            exact ⟨_, rfl, ⟨_, rfl⟩, J36⟩
        · skip
          refine ex_iconst ok_X12_slot (mi 16 rfl) ?_
          refine ex_goto (tgt := 34) ok_X12_slot (mi 17 rfl) rfl ?_
          refine ex_iconst ok_X12_slot (mi 19 rfl) ?_
          refine ex_iconst ok_X12_slot (mi 20 rfl) ?_
          refine sm_V (As := [_, _, _]) ok_X12_slot (mi 21 rfl) rfl (s_ref hst (MI_s I)) rfl (fk (MI_s I) 0 rfl) rfl rfl (by decide) (by decide) (Nat.le_of_ble_eq_true rfl) (by decide) RF_no (fun z40 g44 p41 => ?_)
          obtain ⟨b42, v43, eb42, egb42, hrb42⟩ := p41
          cases eb42
          subst egb42
          have J45 := MI_I (f := 1200) (v := v43) I (by decide)
          refine ex_if_eq (tgt := 44) ok_X12_slot (mi 22 rfl) rfl (fun h39 => ?_) (fun h39 => ?_)
          · skip
            obtain rfl : b42 = nI 0 := h39.trans (by decide)
            have q46 := hrb42.resolve_right (fun q => absurd q.1 (by decide))
            refine ex_aload_n ok_X12_slot (mi 25 rfl) rfl ?_
            refine ex_getRx ok_X12_slot (mi 26 rfl) rfl rfl (fk (MI_s J45) 0 rfl) (fr (MI_s J45) 1 rfl) (fk (MI_s J45) 2 rfl) (by decide) ?_
            refine ex_iload_n ok_X12_slot (mi 27 rfl) rfl ?_
            refine sm_iald ok_X12_slot (mi 28 rfl) (fk (MI_s J45) 2 rfl) (fn (MI_s J45) 2 rfl) rfl (by omega) (by decide) ?_
            refine ex_iconst ok_X12_slot (mi 29 rfl) ?_
            refine ex_icmp_ne (tgt := 58) ok_X12_slot (mi 30 rfl) rfl (fun h51 => ?_) (fun h51 => ?_)
            · skip
              refine ex_iconst ok_X12_slot (mi 33 rfl) ?_
              refine ex_istore ok_X12_slot (mi 34 rfl) ?_
              refine ex_bipush ok_X12_slot (mi 35 rfl) ?_
              refine ex_iload_n ok_X12_slot (mi 36 rfl) rfl ?_
              refine ex_imul ok_X12_slot (mi 37 rfl) ?_
              refine ex_top (w := (nI (16 * a10))) (nI_mulc rfl) ?_
              refine ex_iload_n ok_X12_slot (mi 38 rfl) rfl ?_
              refine ex_iadd ok_X12_slot (mi 39 rfl) ?_
              refine ex_top (w := (nI (16 * a10 + a20))) (nI_add _ _) ?_
              refine ex_istore ok_X12_slot (mi 40 rfl) ?_
              refine ex_iload_n ok_X12_slot (mi 41 rfl) rfl ?_
              refine ex_iconst ok_X12_slot (mi 42 rfl) ?_
              refine ex_icmp_ne (tgt := 93) ok_X12_slot (mi 43 rfl) rfl (fun hn => absurd (by decide) hn) (fun _ => ?_)
              refine ex_iload ok_X12_slot (mi 44 rfl) rfl ?_
              refine ex_if_eq (tgt := 89) ok_X12_slot (mi 45 rfl) rfl (fun _ => ?_) (fun hn => absurd (by decide) hn)
              refine ex_iconst ok_X12_slot (mi 51 rfl) ?_
              refine ex_goto (tgt := 138) ok_X12_slot (mi 52 rfl) rfl ?_
              refine ex_iret ok_X12_slot (mi 76 rfl) rfl ?_
              exact ⟨_, rfl, ⟨_, rfl⟩, J45⟩
            · skip
              have J47 := MI_Ra (l := a10) J45 (by rw [h51]; decide)
              refine ex_iconst ok_X12_slot (mi 31 rfl) ?_
              refine ex_goto (tgt := 59) ok_X12_slot (mi 32 rfl) rfl ?_
              refine ex_istore ok_X12_slot (mi 34 rfl) ?_
              refine ex_bipush ok_X12_slot (mi 35 rfl) ?_
              refine ex_iload_n ok_X12_slot (mi 36 rfl) rfl ?_
              refine ex_imul ok_X12_slot (mi 37 rfl) ?_
              refine ex_top (w := (nI (16 * a10))) (nI_mulc rfl) ?_
              refine ex_iload_n ok_X12_slot (mi 38 rfl) rfl ?_
              refine ex_iadd ok_X12_slot (mi 39 rfl) ?_
              refine ex_top (w := (nI (16 * a10 + a20))) (nI_add _ _) ?_
              refine ex_istore ok_X12_slot (mi 40 rfl) ?_
              refine ex_iload_n ok_X12_slot (mi 41 rfl) rfl ?_
              refine ex_iconst ok_X12_slot (mi 42 rfl) ?_
              refine ex_icmp_ne (tgt := 93) ok_X12_slot (mi 43 rfl) rfl (fun hn => absurd (by decide) hn) (fun _ => ?_)
              refine ex_iload ok_X12_slot (mi 44 rfl) rfl ?_
              refine ex_if_eq (tgt := 89) ok_X12_slot (mi 45 rfl) rfl (fun hn => absurd hn (by decide)) (fun _ => ?_)
              refine ex_aload_n ok_X12_slot (mi 46 rfl) rfl ?_
              refine ex_getRx ok_X12_slot (mi 47 rfl) rfl rfl (fk (MI_s J47) 0 rfl) (fr (MI_s J47) 16 rfl) (fk (MI_s J47) 17 rfl) (by decide) ?_
              refine ex_iload ok_X12_slot (mi 48 rfl) rfl ?_
              refine sm_iald ok_X12_slot (mi 49 rfl) (fk (MI_s J47) 17 rfl) (fn (MI_s J47) 17 rfl) rfl (by omega) (by decide) ?_
              refine ex_gen (fun w48 => ?_)
              refine ex_goto (tgt := 138) ok_X12_slot (mi 50 rfl) rfl ?_
              refine ex_iret ok_X12_slot (mi 76 rfl) rfl ?_
              exact ⟨_, rfl, ⟨_, rfl⟩, (MI_Rw J47 (fun l k => (Or.inl k)))⟩
          · skip
            refine ex_iconst ok_X12_slot (mi 23 rfl) ?_
            refine ex_iret ok_X12_slot (mi 24 rfl) rfl ?_
            exact ⟨_, rfl, ⟨_, rfl⟩, J45⟩
        · skip
          refine ex_iconst ok_X12_slot (mi 16 rfl) ?_
          refine ex_goto (tgt := 34) ok_X12_slot (mi 17 rfl) rfl ?_
          refine ex_iconst ok_X12_slot (mi 19 rfl) ?_
          refine ex_iconst ok_X12_slot (mi 20 rfl) ?_
          refine sm_V (As := [_, _, _]) ok_X12_slot (mi 21 rfl) rfl (s_ref hst (MI_s I)) rfl (fk (MI_s I) 0 rfl) rfl rfl (by decide) (by decide) (Nat.le_of_ble_eq_true rfl) (by decide) RF_no (fun z49 g53 p50 => ?_)
          obtain ⟨b51, v52, eb51, egb51, hrb51⟩ := p50
          cases eb51
          subst egb51
          have J54 := MI_I (f := 1200) (v := v52) I (by decide)
          refine ex_if_eq (tgt := 44) ok_X12_slot (mi 22 rfl) rfl (fun h39 => ?_) (fun h39 => ?_)
          · skip
            obtain rfl : b51 = nI 0 := h39.trans (by decide)
            have q55 := hrb51.resolve_right (fun q => absurd q.1 (by decide))
            refine ex_aload_n ok_X12_slot (mi 25 rfl) rfl ?_
            refine ex_getRx ok_X12_slot (mi 26 rfl) rfl rfl (fk (MI_s J54) 0 rfl) (fr (MI_s J54) 1 rfl) (fk (MI_s J54) 2 rfl) (by decide) ?_
            refine ex_iload_n ok_X12_slot (mi 27 rfl) rfl ?_
            refine sm_iald ok_X12_slot (mi 28 rfl) (fk (MI_s J54) 2 rfl) (fn (MI_s J54) 2 rfl) rfl (by omega) (by decide) ?_
            refine ex_iconst ok_X12_slot (mi 29 rfl) ?_
            refine ex_icmp_ne (tgt := 58) ok_X12_slot (mi 30 rfl) rfl (fun h51 => ?_) (fun h51 => ?_)
            · skip
              refine ex_iconst ok_X12_slot (mi 33 rfl) ?_
              refine ex_istore ok_X12_slot (mi 34 rfl) ?_
              refine ex_bipush ok_X12_slot (mi 35 rfl) ?_
              refine ex_iload_n ok_X12_slot (mi 36 rfl) rfl ?_
              refine ex_imul ok_X12_slot (mi 37 rfl) ?_
              refine ex_top (w := (nI (16 * a10))) (nI_mulc rfl) ?_
              refine ex_iload_n ok_X12_slot (mi 38 rfl) rfl ?_
              refine ex_iadd ok_X12_slot (mi 39 rfl) ?_
              refine ex_top (w := (nI (16 * a10 + a20))) (nI_add _ _) ?_
              refine ex_istore ok_X12_slot (mi 40 rfl) ?_
              refine ex_iload_n ok_X12_slot (mi 41 rfl) rfl ?_
              refine ex_iconst ok_X12_slot (mi 42 rfl) ?_
              refine ex_icmp_ne (tgt := 93) ok_X12_slot (mi 43 rfl) rfl (fun _ => ?_) (fun hn => absurd hn (by decide))
              refine ex_iload ok_X12_slot (mi 53 rfl) rfl ?_
              refine ex_if_ne (tgt := 102) ok_X12_slot (mi 54 rfl) rfl (fun hn => absurd (by decide) hn) (fun _ => ?_)
              refine ex_iconst ok_X12_slot (mi 55 rfl) ?_
              refine ex_goto (tgt := 138) ok_X12_slot (mi 56 rfl) rfl ?_
              refine ex_iret ok_X12_slot (mi 76 rfl) rfl ?_
              exact ⟨_, rfl, ⟨_, rfl⟩, J54⟩
            · skip
              have J56 := MI_Ra (l := a10) J54 (by rw [h51]; decide)
              refine ex_iconst ok_X12_slot (mi 31 rfl) ?_
              refine ex_goto (tgt := 59) ok_X12_slot (mi 32 rfl) rfl ?_
              refine ex_istore ok_X12_slot (mi 34 rfl) ?_
              refine ex_bipush ok_X12_slot (mi 35 rfl) ?_
              refine ex_iload_n ok_X12_slot (mi 36 rfl) rfl ?_
              refine ex_imul ok_X12_slot (mi 37 rfl) ?_
              refine ex_top (w := (nI (16 * a10))) (nI_mulc rfl) ?_
              refine ex_iload_n ok_X12_slot (mi 38 rfl) rfl ?_
              refine ex_iadd ok_X12_slot (mi 39 rfl) ?_
              refine ex_top (w := (nI (16 * a10 + a20))) (nI_add _ _) ?_
              refine ex_istore ok_X12_slot (mi 40 rfl) ?_
              refine ex_iload_n ok_X12_slot (mi 41 rfl) rfl ?_
              refine ex_iconst ok_X12_slot (mi 42 rfl) ?_
              refine ex_icmp_ne (tgt := 93) ok_X12_slot (mi 43 rfl) rfl (fun _ => ?_) (fun hn => absurd hn (by decide))
              refine ex_iload ok_X12_slot (mi 53 rfl) rfl ?_
              refine ex_if_ne (tgt := 102) ok_X12_slot (mi 54 rfl) rfl (fun _ => ?_) (fun hn => absurd hn (by decide))
              refine ex_iload_n ok_X12_slot (mi 57 rfl) rfl ?_
              refine ex_if_ne (tgt := 116) ok_X12_slot (mi 58 rfl) rfl (fun _ => ?_) (fun hn => absurd hn (by decide))
              refine ex_iload_n ok_X12_slot (mi 64 rfl) rfl ?_
              refine ex_iconst ok_X12_slot (mi 65 rfl) ?_
              refine ex_icmp_ne (tgt := 131) ok_X12_slot (mi 66 rfl) rfl (fun hn => absurd (by decide) hn) (fun _ => ?_)
              refine ex_aload_n ok_X12_slot (mi 67 rfl) rfl ?_
              refine ex_getRx ok_X12_slot (mi 68 rfl) rfl rfl (fk (MI_s J56) 0 rfl) (fr (MI_s J56) 17 rfl) (fk (MI_s J56) 18 rfl) (by decide) ?_
              refine ex_iload ok_X12_slot (mi 69 rfl) rfl ?_
              refine sm_iald ok_X12_slot (mi 70 rfl) (fk (MI_s J56) 18 rfl) (fn (MI_s J56) 18 rfl) rfl (by omega) (by decide) ?_
              refine ex_gen (fun w57 => ?_)
              refine ex_goto (tgt := 138) ok_X12_slot (mi 71 rfl) rfl ?_
              refine ex_iret ok_X12_slot (mi 76 rfl) rfl ?_
              exact ⟨_, rfl, ⟨_, rfl⟩, (MI_Rw J56 (fun l k => (Or.inl k)))⟩
          · skip
            refine ex_iconst ok_X12_slot (mi 23 rfl) ?_
            refine ex_iret ok_X12_slot (mi 24 rfl) rfl ?_
            exact ⟨_, rfl, ⟨_, rfl⟩, J54⟩
        · skip
          refine ex_iconst ok_X12_slot (mi 16 rfl) ?_
          refine ex_goto (tgt := 34) ok_X12_slot (mi 17 rfl) rfl ?_
          refine ex_iconst ok_X12_slot (mi 19 rfl) ?_
          refine ex_iconst ok_X12_slot (mi 20 rfl) ?_
          refine sm_V (As := [_, _, _]) ok_X12_slot (mi 21 rfl) rfl (s_ref hst (MI_s I)) rfl (fk (MI_s I) 0 rfl) rfl rfl (by decide) (by decide) (Nat.le_of_ble_eq_true rfl) (by decide) RF_no (fun z58 g62 p59 => ?_)
          obtain ⟨b60, v61, eb60, egb60, hrb60⟩ := p59
          cases eb60
          subst egb60
          have J63 := MI_I (f := 1200) (v := v61) I (by decide)
          refine ex_if_eq (tgt := 44) ok_X12_slot (mi 22 rfl) rfl (fun h39 => ?_) (fun h39 => ?_)
          · skip
            obtain rfl : b60 = nI 0 := h39.trans (by decide)
            have q64 := hrb60.resolve_right (fun q => absurd q.1 (by decide))
            refine ex_aload_n ok_X12_slot (mi 25 rfl) rfl ?_
            refine ex_getRx ok_X12_slot (mi 26 rfl) rfl rfl (fk (MI_s J63) 0 rfl) (fr (MI_s J63) 1 rfl) (fk (MI_s J63) 2 rfl) (by decide) ?_
            refine ex_iload_n ok_X12_slot (mi 27 rfl) rfl ?_
            refine sm_iald ok_X12_slot (mi 28 rfl) (fk (MI_s J63) 2 rfl) (fn (MI_s J63) 2 rfl) rfl (by omega) (by decide) ?_
            refine ex_iconst ok_X12_slot (mi 29 rfl) ?_
            refine ex_icmp_ne (tgt := 58) ok_X12_slot (mi 30 rfl) rfl (fun h51 => ?_) (fun h51 => ?_)
            · skip
              refine ex_iconst ok_X12_slot (mi 33 rfl) ?_
              refine ex_istore ok_X12_slot (mi 34 rfl) ?_
              refine ex_bipush ok_X12_slot (mi 35 rfl) ?_
              refine ex_iload_n ok_X12_slot (mi 36 rfl) rfl ?_
              refine ex_imul ok_X12_slot (mi 37 rfl) ?_
              refine ex_top (w := (nI (16 * a10))) (nI_mulc rfl) ?_
              refine ex_iload_n ok_X12_slot (mi 38 rfl) rfl ?_
              refine ex_iadd ok_X12_slot (mi 39 rfl) ?_
              refine ex_top (w := (nI (16 * a10 + a20))) (nI_add _ _) ?_
              refine ex_istore ok_X12_slot (mi 40 rfl) ?_
              refine ex_iload_n ok_X12_slot (mi 41 rfl) rfl ?_
              refine ex_iconst ok_X12_slot (mi 42 rfl) ?_
              refine ex_icmp_ne (tgt := 93) ok_X12_slot (mi 43 rfl) rfl (fun _ => ?_) (fun hn => absurd hn (by decide))
              refine ex_iload ok_X12_slot (mi 53 rfl) rfl ?_
              refine ex_if_ne (tgt := 102) ok_X12_slot (mi 54 rfl) rfl (fun hn => absurd (by decide) hn) (fun _ => ?_)
              refine ex_iconst ok_X12_slot (mi 55 rfl) ?_
              refine ex_goto (tgt := 138) ok_X12_slot (mi 56 rfl) rfl ?_
              refine ex_iret ok_X12_slot (mi 76 rfl) rfl ?_
              exact ⟨_, rfl, ⟨_, rfl⟩, J63⟩
            · skip
              have J65 := MI_Ra (l := a10) J63 (by rw [h51]; decide)
              refine ex_iconst ok_X12_slot (mi 31 rfl) ?_
              refine ex_goto (tgt := 59) ok_X12_slot (mi 32 rfl) rfl ?_
              refine ex_istore ok_X12_slot (mi 34 rfl) ?_
              refine ex_bipush ok_X12_slot (mi 35 rfl) ?_
              refine ex_iload_n ok_X12_slot (mi 36 rfl) rfl ?_
              refine ex_imul ok_X12_slot (mi 37 rfl) ?_
              refine ex_top (w := (nI (16 * a10))) (nI_mulc rfl) ?_
              refine ex_iload_n ok_X12_slot (mi 38 rfl) rfl ?_
              refine ex_iadd ok_X12_slot (mi 39 rfl) ?_
              refine ex_top (w := (nI (16 * a10 + a20))) (nI_add _ _) ?_
              refine ex_istore ok_X12_slot (mi 40 rfl) ?_
              refine ex_iload_n ok_X12_slot (mi 41 rfl) rfl ?_
              refine ex_iconst ok_X12_slot (mi 42 rfl) ?_
              refine ex_icmp_ne (tgt := 93) ok_X12_slot (mi 43 rfl) rfl (fun _ => ?_) (fun hn => absurd hn (by decide))
              refine ex_iload ok_X12_slot (mi 53 rfl) rfl ?_
              refine ex_if_ne (tgt := 102) ok_X12_slot (mi 54 rfl) rfl (fun _ => ?_) (fun hn => absurd hn (by decide))
              refine ex_iload_n ok_X12_slot (mi 57 rfl) rfl ?_
              refine ex_if_ne (tgt := 116) ok_X12_slot (mi 58 rfl) rfl (fun _ => ?_) (fun hn => absurd hn (by decide))
              refine ex_iload_n ok_X12_slot (mi 64 rfl) rfl ?_
              refine ex_iconst ok_X12_slot (mi 65 rfl) ?_
              refine ex_icmp_ne (tgt := 131) ok_X12_slot (mi 66 rfl) rfl (fun _ => ?_) (fun hn => absurd hn (by decide))
              refine ex_aload_n ok_X12_slot (mi 72 rfl) rfl ?_
              refine ex_getRx ok_X12_slot (mi 73 rfl) rfl rfl (fk (MI_s J65) 0 rfl) (fr (MI_s J65) 18 rfl) (fk (MI_s J65) 19 rfl) (by decide) ?_
              refine ex_iload ok_X12_slot (mi 74 rfl) rfl ?_
              refine sm_iald ok_X12_slot (mi 75 rfl) (fk (MI_s J65) 19 rfl) (fn (MI_s J65) 19 rfl) rfl (by omega) (by decide) ?_
              refine ex_gen (fun w66 => ?_)
              refine ex_iret ok_X12_slot (mi 76 rfl) rfl ?_
              exact ⟨_, rfl, ⟨_, rfl⟩, (MI_Rw J65 (fun l k => (Or.inl k)))⟩
          · skip
            refine ex_iconst ok_X12_slot (mi 23 rfl) ?_
            refine ex_iret ok_X12_slot (mi 24 rfl) rfl ?_
            exact ⟨_, rfl, ⟨_, rfl⟩, J63⟩
theorem s_X12_keeper {G : GE} (hst : (ge_l G).stackTraces = false) {y c : Nat} {D : UT} {R : Nat → Prop} {g : GT} (I : MI y D c R g) {p0 : Int32} {p1 : Int32} : ex_M G 2 0 0 my_X12_keeper [.ref y, .int p0, .int p1] g (SM y D c R pI) := by
  refine ex_M_of ok_X12_keeper cw_X12_keeper rfl hst (Nat.le_of_ble_eq_true rfl) ?_
  refine ex_aload_n ok_X12_keeper (mi 0 rfl) rfl ?_
  refine ex_iload_n ok_X12_keeper (mi 1 rfl) rfl ?_
  refine ex_iconst ok_X12_keeper (mi 2 rfl) ?_
  refine ex_bipush ok_X12_keeper (mi 3 rfl) ?_
  refine sf_Sp (As := [_, _, _]) ok_X12_keeper (mi 4 rfl) rfl (s_in hst) rfl rfl rfl (by decide) (Nat.le_of_ble_eq_true rfl) (by decide) (fun z1 p2 => ?_)
  obtain ⟨b3, rfl, hb3⟩ := p2
  refine ex_if_eq (tgt := 25) ok_X12_keeper (mi 5 rfl) rfl (fun h8 => ?_) (fun h8 => ?_)
  · skip
    obtain rfl : b3 = nI 0 := h8.trans (by decide)
    refine ex_iconst ok_X12_keeper (mi 13 rfl) ?_
    refine ex_iconst ok_X12_keeper (mi 14 rfl) ?_
    refine ex_iconst ok_X12_keeper (mi 15 rfl) ?_
    refine sm_V (As := [_, _, _]) ok_X12_keeper (mi 16 rfl) rfl (s_ref hst (MI_s I)) rfl (fk (MI_s I) 0 rfl) rfl rfl (by decide) (by decide) (Nat.le_of_ble_eq_true rfl) (by decide) RF_no (fun z4 g8 p5 => ?_)
    obtain ⟨b6, v7, eb6, egb6, hrb6⟩ := p5
    cases eb6
    subst egb6
    have J9 := MI_I (f := 1200) (v := v7) I (by decide)
    obtain rfl : b6 = nI 1 := hrb6.elim (fun q => absurd (show (nI 0 : Int32) = 0 by decide) q.2.1) (fun q => q.1.trans (by decide))
    refine ex_if_eq (tgt := 36) ok_X12_keeper (mi 17 rfl) rfl (fun hn => absurd hn (by decide)) (fun _ => ?_)
    refine ex_iconst ok_X12_keeper (mi 18 rfl) ?_
    refine ex_iret ok_X12_keeper (mi 19 rfl) rfl ?_
    exact ⟨_, rfl, ⟨_, rfl⟩, J9⟩
  · skip
    obtain ⟨eb3, lb3, ub3⟩ := hb3.resolve_left (fun q => h8 q.1)
    obtain rfl : b3 = nI 1 := eb3.trans (by decide)
    obtain ⟨a10, ha10, rfl⟩ := in_n (n := 8) lb3 ub3 (by decide) rfl (by decide)
    refine ex_iload_n ok_X12_keeper (mi 6 rfl) rfl ?_
    refine ex_iconst ok_X12_keeper (mi 7 rfl) ?_
    refine ex_bipush ok_X12_keeper (mi 8 rfl) ?_
    refine sf_Sp (As := [_, _, _]) ok_X12_keeper (mi 9 rfl) rfl (s_in hst) rfl rfl rfl (by decide) (Nat.le_of_ble_eq_true rfl) (by decide) (fun z11 p12 => ?_)
    obtain ⟨b13, rfl, hb13⟩ := p12
    refine ex_if_eq (tgt := 25) ok_X12_keeper (mi 10 rfl) rfl (fun h18 => ?_) (fun h18 => ?_)
    · skip
      obtain rfl : b13 = nI 0 := h18.trans (by decide)
      refine ex_iconst ok_X12_keeper (mi 13 rfl) ?_
      refine ex_iconst ok_X12_keeper (mi 14 rfl) ?_
      refine ex_iconst ok_X12_keeper (mi 15 rfl) ?_
      refine sm_V (As := [_, _, _]) ok_X12_keeper (mi 16 rfl) rfl (s_ref hst (MI_s I)) rfl (fk (MI_s I) 0 rfl) rfl rfl (by decide) (by decide) (Nat.le_of_ble_eq_true rfl) (by decide) RF_no (fun z14 g18 p15 => ?_)
      obtain ⟨b16, v17, eb16, egb16, hrb16⟩ := p15
      cases eb16
      subst egb16
      have J19 := MI_I (f := 1200) (v := v17) I (by decide)
      obtain rfl : b16 = nI 1 := hrb16.elim (fun q => absurd (show (nI 0 : Int32) = 0 by decide) q.2.1) (fun q => q.1.trans (by decide))
      refine ex_if_eq (tgt := 36) ok_X12_keeper (mi 17 rfl) rfl (fun hn => absurd hn (by decide)) (fun _ => ?_)
      refine ex_iconst ok_X12_keeper (mi 18 rfl) ?_
      refine ex_iret ok_X12_keeper (mi 19 rfl) rfl ?_
      exact ⟨_, rfl, ⟨_, rfl⟩, J19⟩
    · skip
      obtain ⟨eb13, lb13, ub13⟩ := hb13.resolve_left (fun q => h18 q.1)
      obtain rfl : b13 = nI 1 := eb13.trans (by decide)
      obtain ⟨a20, ha20, rfl⟩ := in_n (n := 7) lb13 ub13 (by decide) rfl (by decide)
      rcases (by omega : a20 = 0 ∨ a20 = 1 ∨ a20 = 2 ∨ a20 = 3 ∨ a20 = 4 ∨ a20 = 5 ∨ a20 = 6 ∨ a20 = 7) with rfl | rfl | rfl | rfl | rfl | rfl | rfl | rfl
      · skip
        refine ex_iconst ok_X12_keeper (mi 11 rfl) ?_
        refine ex_goto (tgt := 26) ok_X12_keeper (mi 12 rfl) rfl ?_
        refine ex_iconst ok_X12_keeper (mi 14 rfl) ?_
        refine ex_iconst ok_X12_keeper (mi 15 rfl) ?_
        refine sm_V (As := [_, _, _]) ok_X12_keeper (mi 16 rfl) rfl (s_ref hst (MI_s I)) rfl (fk (MI_s I) 0 rfl) rfl rfl (by decide) (by decide) (Nat.le_of_ble_eq_true rfl) (by decide) RF_no (fun z21 g25 p22 => ?_)
        obtain ⟨b23, v24, eb23, egb23, hrb23⟩ := p22
        cases eb23
        subst egb23
        have J26 := MI_I (f := 1200) (v := v24) I (by decide)
        refine ex_if_eq (tgt := 36) ok_X12_keeper (mi 17 rfl) rfl (fun h31 => ?_) (fun h31 => ?_)
        · skip
          obtain rfl : b23 = nI 0 := h31.trans (by decide)
          have q27 := hrb23.resolve_right (fun q => absurd q.1 (by decide))
          refine ex_iload_n ok_X12_keeper (mi 20 rfl) rfl ?_
          refine ex_tblk (tgt := 80) ok_X12_keeper (mi 21 rfl) (by decide) (by decide) (by decide) (by decide) ?_
          refine ex_aload_n ok_X12_keeper (mi 22 rfl) rfl ?_
          refine ex_getRx ok_X12_keeper (mi 23 rfl) rfl rfl (fk (MI_s J26) 0 rfl) (fr (MI_s J26) 33 rfl) (fk (MI_s J26) 34 rfl) (by decide) ?_
          refine ex_iload_n ok_X12_keeper (mi 24 rfl) rfl ?_
          refine sm_iald ok_X12_keeper (mi 25 rfl) (fk (MI_s J26) 34 rfl) (fn (MI_s J26) 34 rfl) rfl (by omega) (by decide) ?_
          refine ex_gen (fun w28 => ?_)
          refine ex_iret ok_X12_keeper (mi 26 rfl) rfl ?_
          exact ⟨_, rfl, ⟨_, rfl⟩, J26⟩
        · skip
          refine ex_iconst ok_X12_keeper (mi 18 rfl) ?_
          refine ex_iret ok_X12_keeper (mi 19 rfl) rfl ?_
          exact ⟨_, rfl, ⟨_, rfl⟩, J26⟩
      · skip
        refine ex_iconst ok_X12_keeper (mi 11 rfl) ?_
        refine ex_goto (tgt := 26) ok_X12_keeper (mi 12 rfl) rfl ?_
        refine ex_iconst ok_X12_keeper (mi 14 rfl) ?_
        refine ex_iconst ok_X12_keeper (mi 15 rfl) ?_
        refine sm_V (As := [_, _, _]) ok_X12_keeper (mi 16 rfl) rfl (s_ref hst (MI_s I)) rfl (fk (MI_s I) 0 rfl) rfl rfl (by decide) (by decide) (Nat.le_of_ble_eq_true rfl) (by decide) RF_no (fun z29 g33 p30 => ?_)
        obtain ⟨b31, v32, eb31, egb31, hrb31⟩ := p30
        cases eb31
        subst egb31
        have J34 := MI_I (f := 1200) (v := v32) I (by decide)
        refine ex_if_eq (tgt := 36) ok_X12_keeper (mi 17 rfl) rfl (fun h31 => ?_) (fun h31 => ?_)
        · skip
          obtain rfl : b31 = nI 0 := h31.trans (by decide)
          have q35 := hrb31.resolve_right (fun q => absurd q.1 (by decide))
          refine ex_iload_n ok_X12_keeper (mi 20 rfl) rfl ?_
          refine ex_tblk (tgt := 87) ok_X12_keeper (mi 21 rfl) (by decide) (by decide) (by decide) (by decide) ?_
          refine ex_aload_n ok_X12_keeper (mi 27 rfl) rfl ?_
          refine ex_getRx ok_X12_keeper (mi 28 rfl) rfl rfl (fk (MI_s J34) 0 rfl) (fr (MI_s J34) 34 rfl) (fk (MI_s J34) 35 rfl) (by decide) ?_
          refine ex_iload_n ok_X12_keeper (mi 29 rfl) rfl ?_
          refine sm_iald ok_X12_keeper (mi 30 rfl) (fk (MI_s J34) 35 rfl) (fn (MI_s J34) 35 rfl) rfl (by omega) (by decide) ?_
          refine ex_gen (fun w36 => ?_)
          refine ex_iret ok_X12_keeper (mi 31 rfl) rfl ?_
          exact ⟨_, rfl, ⟨_, rfl⟩, J34⟩
        · skip
          refine ex_iconst ok_X12_keeper (mi 18 rfl) ?_
          refine ex_iret ok_X12_keeper (mi 19 rfl) rfl ?_
          exact ⟨_, rfl, ⟨_, rfl⟩, J34⟩
      · skip
        refine ex_iconst ok_X12_keeper (mi 11 rfl) ?_
        refine ex_goto (tgt := 26) ok_X12_keeper (mi 12 rfl) rfl ?_
        refine ex_iconst ok_X12_keeper (mi 14 rfl) ?_
        refine ex_iconst ok_X12_keeper (mi 15 rfl) ?_
        refine sm_V (As := [_, _, _]) ok_X12_keeper (mi 16 rfl) rfl (s_ref hst (MI_s I)) rfl (fk (MI_s I) 0 rfl) rfl rfl (by decide) (by decide) (Nat.le_of_ble_eq_true rfl) (by decide) RF_no (fun z37 g41 p38 => ?_)
        obtain ⟨b39, v40, eb39, egb39, hrb39⟩ := p38
        cases eb39
        subst egb39
        have J42 := MI_I (f := 1200) (v := v40) I (by decide)
        refine ex_if_eq (tgt := 36) ok_X12_keeper (mi 17 rfl) rfl (fun h31 => ?_) (fun h31 => ?_)
        · skip
          obtain rfl : b39 = nI 0 := h31.trans (by decide)
          have q43 := hrb39.resolve_right (fun q => absurd q.1 (by decide))
          refine ex_iload_n ok_X12_keeper (mi 20 rfl) rfl ?_
          refine ex_tblk (tgt := 94) ok_X12_keeper (mi 21 rfl) (by decide) (by decide) (by decide) (by decide) ?_
          refine ex_aload_n ok_X12_keeper (mi 32 rfl) rfl ?_
          refine ex_getRx ok_X12_keeper (mi 33 rfl) rfl rfl (fk (MI_s J42) 0 rfl) (fr (MI_s J42) 36 rfl) (fk (MI_s J42) 37 rfl) (by decide) ?_
          refine ex_iload_n ok_X12_keeper (mi 34 rfl) rfl ?_
          refine sm_iald ok_X12_keeper (mi 35 rfl) (fk (MI_s J42) 37 rfl) (fn (MI_s J42) 37 rfl) rfl (by omega) (by decide) ?_
          obtain ⟨v44, hv44, ev44⟩ := vp_in_of (n := 300) (MI_bd J42 10 rfl (i := a10) (by omega)) (by decide)
          refine ex_top (w := nI v44) ev44 ?_
          refine ex_iret ok_X12_keeper (mi 36 rfl) rfl ?_
          exact ⟨_, rfl, ⟨_, rfl⟩, J42⟩
        · skip
          refine ex_iconst ok_X12_keeper (mi 18 rfl) ?_
          refine ex_iret ok_X12_keeper (mi 19 rfl) rfl ?_
          exact ⟨_, rfl, ⟨_, rfl⟩, J42⟩
      · skip
        refine ex_iconst ok_X12_keeper (mi 11 rfl) ?_
        refine ex_goto (tgt := 26) ok_X12_keeper (mi 12 rfl) rfl ?_
        refine ex_iconst ok_X12_keeper (mi 14 rfl) ?_
        refine ex_iconst ok_X12_keeper (mi 15 rfl) ?_
        refine sm_V (As := [_, _, _]) ok_X12_keeper (mi 16 rfl) rfl (s_ref hst (MI_s I)) rfl (fk (MI_s I) 0 rfl) rfl rfl (by decide) (by decide) (Nat.le_of_ble_eq_true rfl) (by decide) RF_no (fun z45 g49 p46 => ?_)
        obtain ⟨b47, v48, eb47, egb47, hrb47⟩ := p46
        cases eb47
        subst egb47
        have J50 := MI_I (f := 1200) (v := v48) I (by decide)
        refine ex_if_eq (tgt := 36) ok_X12_keeper (mi 17 rfl) rfl (fun h31 => ?_) (fun h31 => ?_)
        · skip
          obtain rfl : b47 = nI 0 := h31.trans (by decide)
          have q51 := hrb47.resolve_right (fun q => absurd q.1 (by decide))
          refine ex_iload_n ok_X12_keeper (mi 20 rfl) rfl ?_
          refine ex_tblk (tgt := 101) ok_X12_keeper (mi 21 rfl) (by decide) (by decide) (by decide) (by decide) ?_
          refine ex_aload_n ok_X12_keeper (mi 37 rfl) rfl ?_
          refine ex_iload_n ok_X12_keeper (mi 38 rfl) rfl ?_
          refine sf_Vp (As := [_]) ok_X12_keeper (mi 39 rfl) rfl (s_X12_countEntries hst (MI_s J50) (vp_in_nI (N := 9) (by omega) (by decide))) rfl (fk (MI_s J50) 0 rfl) rfl rfl (by decide) (by decide) (Nat.le_of_ble_eq_true rfl) (by decide) (fun z52 p53 => ?_)
          obtain ⟨v56, rfl⟩ := p53
          refine ex_iret ok_X12_keeper (mi 40 rfl) rfl ?_
          exact ⟨_, rfl, ⟨_, rfl⟩, J50⟩
        · skip
          refine ex_iconst ok_X12_keeper (mi 18 rfl) ?_
          refine ex_iret ok_X12_keeper (mi 19 rfl) rfl ?_
          exact ⟨_, rfl, ⟨_, rfl⟩, J50⟩
      · skip
        refine ex_iconst ok_X12_keeper (mi 11 rfl) ?_
        refine ex_goto (tgt := 26) ok_X12_keeper (mi 12 rfl) rfl ?_
        refine ex_iconst ok_X12_keeper (mi 14 rfl) ?_
        refine ex_iconst ok_X12_keeper (mi 15 rfl) ?_
        refine sm_V (As := [_, _, _]) ok_X12_keeper (mi 16 rfl) rfl (s_ref hst (MI_s I)) rfl (fk (MI_s I) 0 rfl) rfl rfl (by decide) (by decide) (Nat.le_of_ble_eq_true rfl) (by decide) RF_no (fun z57 g61 p58 => ?_)
        obtain ⟨b59, v60, eb59, egb59, hrb59⟩ := p58
        cases eb59
        subst egb59
        have J62 := MI_I (f := 1200) (v := v60) I (by decide)
        refine ex_if_eq (tgt := 36) ok_X12_keeper (mi 17 rfl) rfl (fun h31 => ?_) (fun h31 => ?_)
        · skip
          obtain rfl : b59 = nI 0 := h31.trans (by decide)
          have q63 := hrb59.resolve_right (fun q => absurd q.1 (by decide))
          refine ex_iload_n ok_X12_keeper (mi 20 rfl) rfl ?_
          refine ex_tblk (tgt := 107) ok_X12_keeper (mi 21 rfl) (by decide) (by decide) (by decide) (by decide) ?_
          refine ex_aload_n ok_X12_keeper (mi 41 rfl) rfl ?_
          refine ex_getRx ok_X12_keeper (mi 42 rfl) rfl rfl (fk (MI_s J62) 0 rfl) (fr (MI_s J62) 38 rfl) (fk (MI_s J62) 39 rfl) (by decide) ?_
          refine ex_iload_n ok_X12_keeper (mi 43 rfl) rfl ?_
          refine sm_iald ok_X12_keeper (mi 44 rfl) (fk (MI_s J62) 39 rfl) (fn (MI_s J62) 39 rfl) rfl (by omega) (by decide) ?_
          refine ex_gen (fun w64 => ?_)
          refine ex_iret ok_X12_keeper (mi 45 rfl) rfl ?_
          exact ⟨_, rfl, ⟨_, rfl⟩, J62⟩
        · skip
          refine ex_iconst ok_X12_keeper (mi 18 rfl) ?_
          refine ex_iret ok_X12_keeper (mi 19 rfl) rfl ?_
          exact ⟨_, rfl, ⟨_, rfl⟩, J62⟩
      · skip
        refine ex_iconst ok_X12_keeper (mi 11 rfl) ?_
        refine ex_goto (tgt := 26) ok_X12_keeper (mi 12 rfl) rfl ?_
        refine ex_iconst ok_X12_keeper (mi 14 rfl) ?_
        refine ex_iconst ok_X12_keeper (mi 15 rfl) ?_
        refine sm_V (As := [_, _, _]) ok_X12_keeper (mi 16 rfl) rfl (s_ref hst (MI_s I)) rfl (fk (MI_s I) 0 rfl) rfl rfl (by decide) (by decide) (Nat.le_of_ble_eq_true rfl) (by decide) RF_no (fun z65 g69 p66 => ?_)
        obtain ⟨b67, v68, eb67, egb67, hrb67⟩ := p66
        cases eb67
        subst egb67
        have J70 := MI_I (f := 1200) (v := v68) I (by decide)
        refine ex_if_eq (tgt := 36) ok_X12_keeper (mi 17 rfl) rfl (fun h31 => ?_) (fun h31 => ?_)
        · skip
          obtain rfl : b67 = nI 0 := h31.trans (by decide)
          have q71 := hrb67.resolve_right (fun q => absurd q.1 (by decide))
          refine ex_iload_n ok_X12_keeper (mi 20 rfl) rfl ?_
          refine ex_tblk (tgt := 114) ok_X12_keeper (mi 21 rfl) (by decide) (by decide) (by decide) (by decide) ?_
          refine ex_aload_n ok_X12_keeper (mi 46 rfl) rfl ?_
          refine ex_getRx ok_X12_keeper (mi 47 rfl) rfl rfl (fk (MI_s J70) 0 rfl) (fr (MI_s J70) 39 rfl) (fk (MI_s J70) 40 rfl) (by decide) ?_
          refine ex_iload_n ok_X12_keeper (mi 48 rfl) rfl ?_
          refine sm_iald ok_X12_keeper (mi 49 rfl) (fk (MI_s J70) 40 rfl) (fn (MI_s J70) 40 rfl) rfl (by omega) (by decide) ?_
          refine ex_gen (fun w72 => ?_)
          refine ex_iret ok_X12_keeper (mi 50 rfl) rfl ?_
          exact ⟨_, rfl, ⟨_, rfl⟩, J70⟩
        · skip
          refine ex_iconst ok_X12_keeper (mi 18 rfl) ?_
          refine ex_iret ok_X12_keeper (mi 19 rfl) rfl ?_
          exact ⟨_, rfl, ⟨_, rfl⟩, J70⟩
      · skip
        refine ex_iconst ok_X12_keeper (mi 11 rfl) ?_
        refine ex_goto (tgt := 26) ok_X12_keeper (mi 12 rfl) rfl ?_
        refine ex_iconst ok_X12_keeper (mi 14 rfl) ?_
        refine ex_iconst ok_X12_keeper (mi 15 rfl) ?_
        refine sm_V (As := [_, _, _]) ok_X12_keeper (mi 16 rfl) rfl (s_ref hst (MI_s I)) rfl (fk (MI_s I) 0 rfl) rfl rfl (by decide) (by decide) (Nat.le_of_ble_eq_true rfl) (by decide) RF_no (fun z73 g77 p74 => ?_)
        obtain ⟨b75, v76, eb75, egb75, hrb75⟩ := p74
        cases eb75
        subst egb75
        have J78 := MI_I (f := 1200) (v := v76) I (by decide)
        refine ex_if_eq (tgt := 36) ok_X12_keeper (mi 17 rfl) rfl (fun h31 => ?_) (fun h31 => ?_)
        · skip
          obtain rfl : b75 = nI 0 := h31.trans (by decide)
          have q79 := hrb75.resolve_right (fun q => absurd q.1 (by decide))
          refine ex_iload_n ok_X12_keeper (mi 20 rfl) rfl ?_
          refine ex_tblk (tgt := 121) ok_X12_keeper (mi 21 rfl) (by decide) (by decide) (by decide) (by decide) ?_
          refine ex_aload_n ok_X12_keeper (mi 51 rfl) rfl ?_
          refine ex_getRx ok_X12_keeper (mi 52 rfl) rfl rfl (fk (MI_s J78) 0 rfl) (fr (MI_s J78) 40 rfl) (fk (MI_s J78) 41 rfl) (by decide) ?_
          refine ex_iload_n ok_X12_keeper (mi 53 rfl) rfl ?_
          refine sm_iald ok_X12_keeper (mi 54 rfl) (fk (MI_s J78) 41 rfl) (fn (MI_s J78) 41 rfl) rfl (by omega) (by decide) ?_
          obtain ⟨v80, hv80, ev80⟩ := vp_in_of (n := 512) (MI_bd J78 11 rfl (i := a10) (by omega)) (by decide)
          refine ex_top (w := nI v80) ev80 ?_
          refine ex_iret ok_X12_keeper (mi 55 rfl) rfl ?_
          exact ⟨_, rfl, ⟨_, rfl⟩, J78⟩
        · skip
          refine ex_iconst ok_X12_keeper (mi 18 rfl) ?_
          refine ex_iret ok_X12_keeper (mi 19 rfl) rfl ?_
          exact ⟨_, rfl, ⟨_, rfl⟩, J78⟩
      · skip
        refine ex_iconst ok_X12_keeper (mi 11 rfl) ?_
        refine ex_goto (tgt := 26) ok_X12_keeper (mi 12 rfl) rfl ?_
        refine ex_iconst ok_X12_keeper (mi 14 rfl) ?_
        refine ex_iconst ok_X12_keeper (mi 15 rfl) ?_
        refine sm_V (As := [_, _, _]) ok_X12_keeper (mi 16 rfl) rfl (s_ref hst (MI_s I)) rfl (fk (MI_s I) 0 rfl) rfl rfl (by decide) (by decide) (Nat.le_of_ble_eq_true rfl) (by decide) RF_no (fun z81 g85 p82 => ?_)
        obtain ⟨b83, v84, eb83, egb83, hrb83⟩ := p82
        cases eb83
        subst egb83
        have J86 := MI_I (f := 1200) (v := v84) I (by decide)
        refine ex_if_eq (tgt := 36) ok_X12_keeper (mi 17 rfl) rfl (fun h31 => ?_) (fun h31 => ?_)
        · skip
          obtain rfl : b83 = nI 0 := h31.trans (by decide)
          have q87 := hrb83.resolve_right (fun q => absurd q.1 (by decide))
          refine ex_iload_n ok_X12_keeper (mi 20 rfl) rfl ?_
          refine ex_tblk (tgt := 128) ok_X12_keeper (mi 21 rfl) (by decide) (by decide) (by decide) (by decide) ?_
          refine ex_aload_n ok_X12_keeper (mi 56 rfl) rfl ?_
          refine ex_getRx ok_X12_keeper (mi 57 rfl) rfl rfl (fk (MI_s J86) 0 rfl) (fr (MI_s J86) 41 rfl) (fk (MI_s J86) 42 rfl) (by decide) ?_
          refine ex_iload_n ok_X12_keeper (mi 58 rfl) rfl ?_
          refine sm_iald ok_X12_keeper (mi 59 rfl) (fk (MI_s J86) 42 rfl) (fn (MI_s J86) 42 rfl) rfl (by omega) (by decide) ?_
          obtain ⟨v88, hv88, ev88⟩ := vp_in_of (n := 512) (MI_bd J86 12 rfl (i := a10) (by omega)) (by decide)
          refine ex_top (w := nI v88) ev88 ?_
          refine ex_iret ok_X12_keeper (mi 60 rfl) rfl ?_
          exact ⟨_, rfl, ⟨_, rfl⟩, J86⟩
        · skip
          refine ex_iconst ok_X12_keeper (mi 18 rfl) ?_
          refine ex_iret ok_X12_keeper (mi 19 rfl) rfl ?_
          exact ⟨_, rfl, ⟨_, rfl⟩, J86⟩
theorem s_X12_voter {G : GE} (hst : (ge_l G).stackTraces = false) {y c : Nat} {D : UT} {R : Nat → Prop} {g : GT} (I : MI y D c R g) {p0 : Int32} {p1 : Int32} : ex_M G 2 0 0 my_X12_voter [.ref y, .int p0, .int p1] g (SM y D c R pI) := by
  refine ex_M_of ok_X12_voter cw_X12_voter rfl hst (Nat.le_of_ble_eq_true rfl) ?_
  refine ex_aload_n ok_X12_voter (mi 0 rfl) rfl ?_
  refine ex_iload_n ok_X12_voter (mi 1 rfl) rfl ?_
  refine ex_iconst ok_X12_voter (mi 2 rfl) ?_
  refine ex_bipush ok_X12_voter (mi 3 rfl) ?_
  refine sf_Sp (As := [_, _, _]) ok_X12_voter (mi 4 rfl) rfl (s_in hst) rfl rfl rfl (by decide) (Nat.le_of_ble_eq_true rfl) (by decide) (fun z1 p2 => ?_)
  obtain ⟨b3, rfl, hb3⟩ := p2
  refine ex_if_eq (tgt := 24) ok_X12_voter (mi 5 rfl) rfl (fun h8 => ?_) (fun h8 => ?_)
  · skip
    obtain rfl : b3 = nI 0 := h8.trans (by decide)
    refine ex_iconst ok_X12_voter (mi 13 rfl) ?_
    refine ex_iconst ok_X12_voter (mi 14 rfl) ?_
    refine ex_iconst ok_X12_voter (mi 15 rfl) ?_
    refine sm_V (As := [_, _, _]) ok_X12_voter (mi 16 rfl) rfl (s_ref hst (MI_s I)) rfl (fk (MI_s I) 0 rfl) rfl rfl (by decide) (by decide) (Nat.le_of_ble_eq_true rfl) (by decide) RF_no (fun z4 g8 p5 => ?_)
    obtain ⟨b6, v7, eb6, egb6, hrb6⟩ := p5
    cases eb6
    subst egb6
    have J9 := MI_I (f := 1200) (v := v7) I (by decide)
    obtain rfl : b6 = nI 1 := hrb6.elim (fun q => absurd (show (nI 0 : Int32) = 0 by decide) q.2.1) (fun q => q.1.trans (by decide))
    refine ex_if_eq (tgt := 35) ok_X12_voter (mi 17 rfl) rfl (fun hn => absurd hn (by decide)) (fun _ => ?_)
    refine ex_iconst ok_X12_voter (mi 18 rfl) ?_
    refine ex_iret ok_X12_voter (mi 19 rfl) rfl ?_
    exact ⟨_, rfl, ⟨_, rfl⟩, J9⟩
  · skip
    obtain ⟨eb3, lb3, ub3⟩ := hb3.resolve_left (fun q => h8 q.1)
    obtain rfl : b3 = nI 1 := eb3.trans (by decide)
    obtain ⟨a10, ha10, rfl⟩ := in_n (n := 11) lb3 ub3 (by decide) rfl (by decide)
    refine ex_iload_n ok_X12_voter (mi 6 rfl) rfl ?_
    refine ex_iconst ok_X12_voter (mi 7 rfl) ?_
    refine ex_iconst ok_X12_voter (mi 8 rfl) ?_
    refine sf_Sp (As := [_, _, _]) ok_X12_voter (mi 9 rfl) rfl (s_in hst) rfl rfl rfl (by decide) (Nat.le_of_ble_eq_true rfl) (by decide) (fun z11 p12 => ?_)
    obtain ⟨b13, rfl, hb13⟩ := p12
    refine ex_if_eq (tgt := 24) ok_X12_voter (mi 10 rfl) rfl (fun h17 => ?_) (fun h17 => ?_)
    · skip
      obtain rfl : b13 = nI 0 := h17.trans (by decide)
      refine ex_iconst ok_X12_voter (mi 13 rfl) ?_
      refine ex_iconst ok_X12_voter (mi 14 rfl) ?_
      refine ex_iconst ok_X12_voter (mi 15 rfl) ?_
      refine sm_V (As := [_, _, _]) ok_X12_voter (mi 16 rfl) rfl (s_ref hst (MI_s I)) rfl (fk (MI_s I) 0 rfl) rfl rfl (by decide) (by decide) (Nat.le_of_ble_eq_true rfl) (by decide) RF_no (fun z14 g18 p15 => ?_)
      obtain ⟨b16, v17, eb16, egb16, hrb16⟩ := p15
      cases eb16
      subst egb16
      have J19 := MI_I (f := 1200) (v := v17) I (by decide)
      obtain rfl : b16 = nI 1 := hrb16.elim (fun q => absurd (show (nI 0 : Int32) = 0 by decide) q.2.1) (fun q => q.1.trans (by decide))
      refine ex_if_eq (tgt := 35) ok_X12_voter (mi 17 rfl) rfl (fun hn => absurd hn (by decide)) (fun _ => ?_)
      refine ex_iconst ok_X12_voter (mi 18 rfl) ?_
      refine ex_iret ok_X12_voter (mi 19 rfl) rfl ?_
      exact ⟨_, rfl, ⟨_, rfl⟩, J19⟩
    · skip
      obtain ⟨eb13, lb13, ub13⟩ := hb13.resolve_left (fun q => h17 q.1)
      obtain rfl : b13 = nI 1 := eb13.trans (by decide)
      obtain ⟨a20, ha20, rfl⟩ := in_n (n := 2) lb13 ub13 (by decide) rfl (by decide)
      rcases (by omega : a20 = 0 ∨ a20 = 1 ∨ a20 = 2) with rfl | rfl | rfl
      · skip
        refine ex_iconst ok_X12_voter (mi 11 rfl) ?_
        refine ex_goto (tgt := 25) ok_X12_voter (mi 12 rfl) rfl ?_
        refine ex_iconst ok_X12_voter (mi 14 rfl) ?_
        refine ex_iconst ok_X12_voter (mi 15 rfl) ?_
        refine sm_V (As := [_, _, _]) ok_X12_voter (mi 16 rfl) rfl (s_ref hst (MI_s I)) rfl (fk (MI_s I) 0 rfl) rfl rfl (by decide) (by decide) (Nat.le_of_ble_eq_true rfl) (by decide) RF_no (fun z21 g25 p22 => ?_)
        obtain ⟨b23, v24, eb23, egb23, hrb23⟩ := p22
        cases eb23
        subst egb23
        have J26 := MI_I (f := 1200) (v := v24) I (by decide)
        refine ex_if_eq (tgt := 35) ok_X12_voter (mi 17 rfl) rfl (fun h30 => ?_) (fun h30 => ?_)
        · skip
          obtain rfl : b23 = nI 0 := h30.trans (by decide)
          have q27 := hrb23.resolve_right (fun q => absurd q.1 (by decide))
          refine ex_iconst ok_X12_voter (mi 20 rfl) ?_
          refine ex_istore_n ok_X12_voter (mi 21 rfl) ?_
          refine ex_iconst ok_X12_voter (mi 22 rfl) ?_
          refine ex_istore ok_X12_voter (mi 23 rfl) ?_
          have lp40 : ∀ n40 k40 : Nat, k40 + n40 = 16 → ∀ (q28 : Int32) (g29 : GT), MI y D c R g29 → ex_W G 2 0 0 M_X12_voter 40 [(0, .ref y), (1, .int (nI (a10))), (2, .int (nI 0)), (3, .int q28), (4, .int (nI (k40)))] [] g29 (SM y D c R pI) := by
            intro n40
            induction n40 with
            | zero =>
              intro k40 he40 q28 g29 J30 
              obtain rfl : k40 = 16 := by omega
              refine ex_iload ok_X12_voter (mi 24 rfl) rfl ?_
              refine ex_bipush ok_X12_voter (mi 25 rfl) ?_
              refine ex_icmp_ge (tgt := 77) ok_X12_voter (mi 26 rfl) rfl (fun _ => ?_) (fun hn => absurd (by decide) hn)
              refine ex_iload_n ok_X12_voter (mi 45 rfl) rfl ?_
              refine ex_if_ne (tgt := 90) ok_X12_voter (mi 46 rfl) rfl (fun hn => absurd (by decide) hn) (fun _ => ?_)
              refine ex_aload_n ok_X12_voter (mi 47 rfl) rfl ?_
              refine ex_getRx ok_X12_voter (mi 48 rfl) rfl rfl (fk (MI_s J30) 0 rfl) (fr (MI_s J30) 42 rfl) (fk (MI_s J30) 43 rfl) (by decide) ?_
              refine ex_iload_n ok_X12_voter (mi 49 rfl) rfl ?_
              refine sm_iald ok_X12_voter (mi 50 rfl) (fk (MI_s J30) 43 rfl) (fn (MI_s J30) 43 rfl) rfl (by omega) (by decide) ?_
              refine ex_gen (fun w31 => ?_)
              refine ex_goto (tgt := 105) ok_X12_voter (mi 51 rfl) rfl ?_
              refine ex_iret ok_X12_voter (mi 61 rfl) rfl ?_
              exact ⟨_, rfl, ⟨_, rfl⟩, J30⟩
            | succ n40 ih40 =>
              intro k40 he40 q28 g29 J30 
              have hr40 : k40 < 16 := by omega
              refine ex_iload ok_X12_voter (mi 24 rfl) rfl ?_
              refine ex_bipush ok_X12_voter (mi 25 rfl) ?_
              refine ex_icmp_ge (tgt := 77) ok_X12_voter (mi 26 rfl) rfl (fun hn => absurd hn (nI_ge (b := 16) hr40 (by decide))) (fun _ => ?_)
              refine ex_iload_n ok_X12_voter (mi 27 rfl) rfl ?_
              refine ex_aload_n ok_X12_voter (mi 28 rfl) rfl ?_
              refine ex_getRx ok_X12_voter (mi 29 rfl) rfl rfl (fk (MI_s J30) 0 rfl) (fr (MI_s J30) 44 rfl) (fk (MI_s J30) 45 rfl) (by decide) ?_
              refine ex_bipush ok_X12_voter (mi 30 rfl) ?_
              refine ex_iload_n ok_X12_voter (mi 31 rfl) rfl ?_
              refine ex_imul ok_X12_voter (mi 32 rfl) ?_
              refine ex_top (w := (nI (16 * a10))) (nI_mulc rfl) ?_
              refine ex_iload ok_X12_voter (mi 33 rfl) rfl ?_
              refine ex_iadd ok_X12_voter (mi 34 rfl) ?_
              refine ex_top (w := (nI (16 * a10 + k40))) (nI_add _ _) ?_
              refine sm_iald ok_X12_voter (mi 35 rfl) (fk (MI_s J30) 45 rfl) (fn (MI_s J30) 45 rfl) rfl (by omega) (by decide) ?_
              refine ex_gen (fun w32 => ?_)
              refine ex_iconst ok_X12_voter (mi 36 rfl) ?_
              refine ex_icmp_eq (tgt := 68) ok_X12_voter (mi 37 rfl) rfl (fun h61 => ?_) (fun h61 => ?_)
              · skip
                refine ex_iconst ok_X12_voter (mi 40 rfl) ?_
                refine ex_iadd ok_X12_voter (mi 41 rfl) ?_
                refine ex_gen (fun w33 => ?_)
                refine ex_istore_n ok_X12_voter (mi 42 rfl) ?_
                refine ex_iincx (w := (nI (k40 + 1))) ok_X12_voter (mi 43 rfl) rfl (nI_1 _) ?_
                refine ex_goto (tgt := 40) ok_X12_voter (mi 44 rfl) rfl ?_
                exact ex_ls (ls' := [(0, .ref y), (1, .int (nI (a10))), (2, .int (nI 0)), (3, .int w33), (4, .int (nI (k40 + 1)))]) ⟨rfl, rfl, rfl, rfl, rfl, trivial⟩ (ih40 (k40 + 1) (by omega) _ g29 J30 )
              · skip
                refine ex_iconst ok_X12_voter (mi 38 rfl) ?_
                refine ex_goto (tgt := 69) ok_X12_voter (mi 39 rfl) rfl ?_
                refine ex_iadd ok_X12_voter (mi 41 rfl) ?_
                refine ex_gen (fun w34 => ?_)
                refine ex_istore_n ok_X12_voter (mi 42 rfl) ?_
                refine ex_iincx (w := (nI (k40 + 1))) ok_X12_voter (mi 43 rfl) rfl (nI_1 _) ?_
                refine ex_goto (tgt := 40) ok_X12_voter (mi 44 rfl) rfl ?_
                exact ex_ls (ls' := [(0, .ref y), (1, .int (nI (a10))), (2, .int (nI 0)), (3, .int w34), (4, .int (nI (k40 + 1)))]) ⟨rfl, rfl, rfl, rfl, rfl, trivial⟩ (ih40 (k40 + 1) (by omega) _ g29 J30 )
          exact ex_ls (ls' := [(0, .ref y), (1, .int (nI (a10))), (2, .int (nI 0)), (3, .int (nI 0)), (4, .int (nI 0))]) ⟨rfl, rfl, rfl, rfl, rfl, trivial⟩ (lp40 (16 - 0) (0) (by omega) _ (px_I g 1200 y v24) J26 )
        · skip
          refine ex_iconst ok_X12_voter (mi 18 rfl) ?_
          refine ex_iret ok_X12_voter (mi 19 rfl) rfl ?_
          exact ⟨_, rfl, ⟨_, rfl⟩, J26⟩
      · skip
        refine ex_iconst ok_X12_voter (mi 11 rfl) ?_
        refine ex_goto (tgt := 25) ok_X12_voter (mi 12 rfl) rfl ?_
        refine ex_iconst ok_X12_voter (mi 14 rfl) ?_
        refine ex_iconst ok_X12_voter (mi 15 rfl) ?_
        refine sm_V (As := [_, _, _]) ok_X12_voter (mi 16 rfl) rfl (s_ref hst (MI_s I)) rfl (fk (MI_s I) 0 rfl) rfl rfl (by decide) (by decide) (Nat.le_of_ble_eq_true rfl) (by decide) RF_no (fun z35 g39 p36 => ?_)
        obtain ⟨b37, v38, eb37, egb37, hrb37⟩ := p36
        cases eb37
        subst egb37
        have J40 := MI_I (f := 1200) (v := v38) I (by decide)
        refine ex_if_eq (tgt := 35) ok_X12_voter (mi 17 rfl) rfl (fun h30 => ?_) (fun h30 => ?_)
        · skip
          obtain rfl : b37 = nI 0 := h30.trans (by decide)
          have q41 := hrb37.resolve_right (fun q => absurd q.1 (by decide))
          refine ex_iconst ok_X12_voter (mi 20 rfl) ?_
          refine ex_istore_n ok_X12_voter (mi 21 rfl) ?_
          refine ex_iconst ok_X12_voter (mi 22 rfl) ?_
          refine ex_istore ok_X12_voter (mi 23 rfl) ?_
          have lp40 : ∀ n40 k40 : Nat, k40 + n40 = 16 → ∀ (q42 : Int32) (g43 : GT), MI y D c R g43 → ex_W G 2 0 0 M_X12_voter 40 [(0, .ref y), (1, .int (nI (a10))), (2, .int (nI 1)), (3, .int q42), (4, .int (nI (k40)))] [] g43 (SM y D c R pI) := by
            intro n40
            induction n40 with
            | zero =>
              intro k40 he40 q42 g43 J44 
              obtain rfl : k40 = 16 := by omega
              refine ex_iload ok_X12_voter (mi 24 rfl) rfl ?_
              refine ex_bipush ok_X12_voter (mi 25 rfl) ?_
              refine ex_icmp_ge (tgt := 77) ok_X12_voter (mi 26 rfl) rfl (fun _ => ?_) (fun hn => absurd (by decide) hn)
              refine ex_iload_n ok_X12_voter (mi 45 rfl) rfl ?_
              refine ex_if_ne (tgt := 90) ok_X12_voter (mi 46 rfl) rfl (fun _ => ?_) (fun hn => absurd hn (by decide))
              refine ex_iload_n ok_X12_voter (mi 52 rfl) rfl ?_
              refine ex_iconst ok_X12_voter (mi 53 rfl) ?_
              refine ex_icmp_ne (tgt := 104) ok_X12_voter (mi 54 rfl) rfl (fun hn => absurd (by decide) hn) (fun _ => ?_)
              refine ex_aload_n ok_X12_voter (mi 55 rfl) rfl ?_
              refine ex_getRx ok_X12_voter (mi 56 rfl) rfl rfl (fk (MI_s J44) 0 rfl) (fr (MI_s J44) 43 rfl) (fk (MI_s J44) 44 rfl) (by decide) ?_
              refine ex_iload_n ok_X12_voter (mi 57 rfl) rfl ?_
              refine sm_iald ok_X12_voter (mi 58 rfl) (fk (MI_s J44) 44 rfl) (fn (MI_s J44) 44 rfl) rfl (by omega) (by decide) ?_
              obtain ⟨v45, hv45, ev45⟩ := vp_in_of (n := 17) (MI_bd J44 13 rfl (i := a10) (by omega)) (by decide)
              refine ex_top (w := nI v45) ev45 ?_
              refine ex_goto (tgt := 105) ok_X12_voter (mi 59 rfl) rfl ?_
              refine ex_iret ok_X12_voter (mi 61 rfl) rfl ?_
              exact ⟨_, rfl, ⟨_, rfl⟩, J44⟩
            | succ n40 ih40 =>
              intro k40 he40 q42 g43 J44 
              have hr40 : k40 < 16 := by omega
              refine ex_iload ok_X12_voter (mi 24 rfl) rfl ?_
              refine ex_bipush ok_X12_voter (mi 25 rfl) ?_
              refine ex_icmp_ge (tgt := 77) ok_X12_voter (mi 26 rfl) rfl (fun hn => absurd hn (nI_ge (b := 16) hr40 (by decide))) (fun _ => ?_)
              refine ex_iload_n ok_X12_voter (mi 27 rfl) rfl ?_
              refine ex_aload_n ok_X12_voter (mi 28 rfl) rfl ?_
              refine ex_getRx ok_X12_voter (mi 29 rfl) rfl rfl (fk (MI_s J44) 0 rfl) (fr (MI_s J44) 44 rfl) (fk (MI_s J44) 45 rfl) (by decide) ?_
              refine ex_bipush ok_X12_voter (mi 30 rfl) ?_
              refine ex_iload_n ok_X12_voter (mi 31 rfl) rfl ?_
              refine ex_imul ok_X12_voter (mi 32 rfl) ?_
              refine ex_top (w := (nI (16 * a10))) (nI_mulc rfl) ?_
              refine ex_iload ok_X12_voter (mi 33 rfl) rfl ?_
              refine ex_iadd ok_X12_voter (mi 34 rfl) ?_
              refine ex_top (w := (nI (16 * a10 + k40))) (nI_add _ _) ?_
              refine sm_iald ok_X12_voter (mi 35 rfl) (fk (MI_s J44) 45 rfl) (fn (MI_s J44) 45 rfl) rfl (by omega) (by decide) ?_
              refine ex_gen (fun w46 => ?_)
              refine ex_iconst ok_X12_voter (mi 36 rfl) ?_
              refine ex_icmp_eq (tgt := 68) ok_X12_voter (mi 37 rfl) rfl (fun h61 => ?_) (fun h61 => ?_)
              · skip
                refine ex_iconst ok_X12_voter (mi 40 rfl) ?_
                refine ex_iadd ok_X12_voter (mi 41 rfl) ?_
                refine ex_gen (fun w47 => ?_)
                refine ex_istore_n ok_X12_voter (mi 42 rfl) ?_
                refine ex_iincx (w := (nI (k40 + 1))) ok_X12_voter (mi 43 rfl) rfl (nI_1 _) ?_
                refine ex_goto (tgt := 40) ok_X12_voter (mi 44 rfl) rfl ?_
                exact ex_ls (ls' := [(0, .ref y), (1, .int (nI (a10))), (2, .int (nI 1)), (3, .int w47), (4, .int (nI (k40 + 1)))]) ⟨rfl, rfl, rfl, rfl, rfl, trivial⟩ (ih40 (k40 + 1) (by omega) _ g43 J44 )
              · skip
                refine ex_iconst ok_X12_voter (mi 38 rfl) ?_
                refine ex_goto (tgt := 69) ok_X12_voter (mi 39 rfl) rfl ?_
                refine ex_iadd ok_X12_voter (mi 41 rfl) ?_
                refine ex_gen (fun w48 => ?_)
                refine ex_istore_n ok_X12_voter (mi 42 rfl) ?_
                refine ex_iincx (w := (nI (k40 + 1))) ok_X12_voter (mi 43 rfl) rfl (nI_1 _) ?_
                refine ex_goto (tgt := 40) ok_X12_voter (mi 44 rfl) rfl ?_
                exact ex_ls (ls' := [(0, .ref y), (1, .int (nI (a10))), (2, .int (nI 1)), (3, .int w48), (4, .int (nI (k40 + 1)))]) ⟨rfl, rfl, rfl, rfl, rfl, trivial⟩ (ih40 (k40 + 1) (by omega) _ g43 J44 )
          exact ex_ls (ls' := [(0, .ref y), (1, .int (nI (a10))), (2, .int (nI 1)), (3, .int (nI 0)), (4, .int (nI 0))]) ⟨rfl, rfl, rfl, rfl, rfl, trivial⟩ (lp40 (16 - 0) (0) (by omega) _ (px_I g 1200 y v38) J40 )
        · skip
          refine ex_iconst ok_X12_voter (mi 18 rfl) ?_
          refine ex_iret ok_X12_voter (mi 19 rfl) rfl ?_
          exact ⟨_, rfl, ⟨_, rfl⟩, J40⟩
      · skip
        refine ex_iconst ok_X12_voter (mi 11 rfl) ?_
        refine ex_goto (tgt := 25) ok_X12_voter (mi 12 rfl) rfl ?_
        refine ex_iconst ok_X12_voter (mi 14 rfl) ?_
        refine ex_iconst ok_X12_voter (mi 15 rfl) ?_
        refine sm_V (As := [_, _, _]) ok_X12_voter (mi 16 rfl) rfl (s_ref hst (MI_s I)) rfl (fk (MI_s I) 0 rfl) rfl rfl (by decide) (by decide) (Nat.le_of_ble_eq_true rfl) (by decide) RF_no (fun z49 g53 p50 => ?_)
        obtain ⟨b51, v52, eb51, egb51, hrb51⟩ := p50
        cases eb51
        subst egb51
        have J54 := MI_I (f := 1200) (v := v52) I (by decide)
        refine ex_if_eq (tgt := 35) ok_X12_voter (mi 17 rfl) rfl (fun h30 => ?_) (fun h30 => ?_)
        · skip
          obtain rfl : b51 = nI 0 := h30.trans (by decide)
          have q55 := hrb51.resolve_right (fun q => absurd q.1 (by decide))
          refine ex_iconst ok_X12_voter (mi 20 rfl) ?_
          refine ex_istore_n ok_X12_voter (mi 21 rfl) ?_
          refine ex_iconst ok_X12_voter (mi 22 rfl) ?_
          refine ex_istore ok_X12_voter (mi 23 rfl) ?_
          have lp40 : ∀ n40 k40 : Nat, k40 + n40 = 16 → ∀ (q56 : Int32) (g57 : GT), MI y D c R g57 → ex_W G 2 0 0 M_X12_voter 40 [(0, .ref y), (1, .int (nI (a10))), (2, .int (nI 2)), (3, .int q56), (4, .int (nI (k40)))] [] g57 (SM y D c R pI) := by
            intro n40
            induction n40 with
            | zero =>
              intro k40 he40 q56 g57 J58 
              obtain rfl : k40 = 16 := by omega
              refine ex_iload ok_X12_voter (mi 24 rfl) rfl ?_
              refine ex_bipush ok_X12_voter (mi 25 rfl) ?_
              refine ex_icmp_ge (tgt := 77) ok_X12_voter (mi 26 rfl) rfl (fun _ => ?_) (fun hn => absurd (by decide) hn)
              refine ex_iload_n ok_X12_voter (mi 45 rfl) rfl ?_
              refine ex_if_ne (tgt := 90) ok_X12_voter (mi 46 rfl) rfl (fun _ => ?_) (fun hn => absurd hn (by decide))
              refine ex_iload_n ok_X12_voter (mi 52 rfl) rfl ?_
              refine ex_iconst ok_X12_voter (mi 53 rfl) ?_
              refine ex_icmp_ne (tgt := 104) ok_X12_voter (mi 54 rfl) rfl (fun _ => ?_) (fun hn => absurd hn (by decide))
              refine ex_iload_n ok_X12_voter (mi 60 rfl) rfl ?_
              refine ex_iret ok_X12_voter (mi 61 rfl) rfl ?_
              exact ⟨_, rfl, ⟨_, rfl⟩, J58⟩
            | succ n40 ih40 =>
              intro k40 he40 q56 g57 J58 
              have hr40 : k40 < 16 := by omega
              refine ex_iload ok_X12_voter (mi 24 rfl) rfl ?_
              refine ex_bipush ok_X12_voter (mi 25 rfl) ?_
              refine ex_icmp_ge (tgt := 77) ok_X12_voter (mi 26 rfl) rfl (fun hn => absurd hn (nI_ge (b := 16) hr40 (by decide))) (fun _ => ?_)
              refine ex_iload_n ok_X12_voter (mi 27 rfl) rfl ?_
              refine ex_aload_n ok_X12_voter (mi 28 rfl) rfl ?_
              refine ex_getRx ok_X12_voter (mi 29 rfl) rfl rfl (fk (MI_s J58) 0 rfl) (fr (MI_s J58) 44 rfl) (fk (MI_s J58) 45 rfl) (by decide) ?_
              refine ex_bipush ok_X12_voter (mi 30 rfl) ?_
              refine ex_iload_n ok_X12_voter (mi 31 rfl) rfl ?_
              refine ex_imul ok_X12_voter (mi 32 rfl) ?_
              refine ex_top (w := (nI (16 * a10))) (nI_mulc rfl) ?_
              refine ex_iload ok_X12_voter (mi 33 rfl) rfl ?_
              refine ex_iadd ok_X12_voter (mi 34 rfl) ?_
              refine ex_top (w := (nI (16 * a10 + k40))) (nI_add _ _) ?_
              refine sm_iald ok_X12_voter (mi 35 rfl) (fk (MI_s J58) 45 rfl) (fn (MI_s J58) 45 rfl) rfl (by omega) (by decide) ?_
              refine ex_gen (fun w59 => ?_)
              refine ex_iconst ok_X12_voter (mi 36 rfl) ?_
              refine ex_icmp_eq (tgt := 68) ok_X12_voter (mi 37 rfl) rfl (fun h61 => ?_) (fun h61 => ?_)
              · skip
                refine ex_iconst ok_X12_voter (mi 40 rfl) ?_
                refine ex_iadd ok_X12_voter (mi 41 rfl) ?_
                refine ex_gen (fun w60 => ?_)
                refine ex_istore_n ok_X12_voter (mi 42 rfl) ?_
                refine ex_iincx (w := (nI (k40 + 1))) ok_X12_voter (mi 43 rfl) rfl (nI_1 _) ?_
                refine ex_goto (tgt := 40) ok_X12_voter (mi 44 rfl) rfl ?_
                exact ex_ls (ls' := [(0, .ref y), (1, .int (nI (a10))), (2, .int (nI 2)), (3, .int w60), (4, .int (nI (k40 + 1)))]) ⟨rfl, rfl, rfl, rfl, rfl, trivial⟩ (ih40 (k40 + 1) (by omega) _ g57 J58 )
              · skip
                refine ex_iconst ok_X12_voter (mi 38 rfl) ?_
                refine ex_goto (tgt := 69) ok_X12_voter (mi 39 rfl) rfl ?_
                refine ex_iadd ok_X12_voter (mi 41 rfl) ?_
                refine ex_gen (fun w61 => ?_)
                refine ex_istore_n ok_X12_voter (mi 42 rfl) ?_
                refine ex_iincx (w := (nI (k40 + 1))) ok_X12_voter (mi 43 rfl) rfl (nI_1 _) ?_
                refine ex_goto (tgt := 40) ok_X12_voter (mi 44 rfl) rfl ?_
                exact ex_ls (ls' := [(0, .ref y), (1, .int (nI (a10))), (2, .int (nI 2)), (3, .int w61), (4, .int (nI (k40 + 1)))]) ⟨rfl, rfl, rfl, rfl, rfl, trivial⟩ (ih40 (k40 + 1) (by omega) _ g57 J58 )
          exact ex_ls (ls' := [(0, .ref y), (1, .int (nI (a10))), (2, .int (nI 2)), (3, .int (nI 0)), (4, .int (nI 0))]) ⟨rfl, rfl, rfl, rfl, rfl, trivial⟩ (lp40 (16 - 0) (0) (by omega) _ (px_I g 1200 y v52) J54 )
        · skip
          refine ex_iconst ok_X12_voter (mi 18 rfl) ?_
          refine ex_iret ok_X12_voter (mi 19 rfl) rfl ?_
          exact ⟨_, rfl, ⟨_, rfl⟩, J54⟩
theorem s_X12_vote {G : GE} (hst : (ge_l G).stackTraces = false) {y c : Nat} {D : UT} {R : Nat → Prop} {g : GT} (I : MI y D c R g) {p0 : Int32} {p1 : Int32} {p2 : Int32} : ex_M G 2 0 0 my_X12_vote [.ref y, .int p0, .int p1, .int p2] g (SM y D c R pI) := by
  refine ex_M_of ok_X12_vote cw_X12_vote rfl hst (Nat.le_of_ble_eq_true rfl) ?_
  refine ex_aload_n ok_X12_vote (mi 0 rfl) rfl ?_
  refine ex_iload_n ok_X12_vote (mi 1 rfl) rfl ?_
  refine ex_iconst ok_X12_vote (mi 2 rfl) ?_
  refine ex_bipush ok_X12_vote (mi 3 rfl) ?_
  refine sf_Sp (As := [_, _, _]) ok_X12_vote (mi 4 rfl) rfl (s_in hst) rfl rfl rfl (by decide) (Nat.le_of_ble_eq_true rfl) (by decide) (fun z1 p2 => ?_)
  obtain ⟨b3, rfl, hb3⟩ := p2
  refine ex_if_eq (tgt := 25) ok_X12_vote (mi 5 rfl) rfl (fun h8 => ?_) (fun h8 => ?_)
  · skip
    obtain rfl : b3 = nI 0 := h8.trans (by decide)
    refine ex_iconst ok_X12_vote (mi 13 rfl) ?_
    refine ex_iconst ok_X12_vote (mi 14 rfl) ?_
    refine ex_iconst ok_X12_vote (mi 15 rfl) ?_
    refine sm_V (As := [_, _, _]) ok_X12_vote (mi 16 rfl) rfl (s_ref hst (MI_s I)) rfl (fk (MI_s I) 0 rfl) rfl rfl (by decide) (by decide) (Nat.le_of_ble_eq_true rfl) (by decide) RF_no (fun z4 g8 p5 => ?_)
    obtain ⟨b6, v7, eb6, egb6, hrb6⟩ := p5
    cases eb6
    subst egb6
    have J9 := MI_I (f := 1200) (v := v7) I (by decide)
    obtain rfl : b6 = nI 1 := hrb6.elim (fun q => absurd (show (nI 0 : Int32) = 0 by decide) q.2.1) (fun q => q.1.trans (by decide))
    refine ex_if_eq (tgt := 36) ok_X12_vote (mi 17 rfl) rfl (fun hn => absurd hn (by decide)) (fun _ => ?_)
    refine ex_iconst ok_X12_vote (mi 18 rfl) ?_
    refine ex_iret ok_X12_vote (mi 19 rfl) rfl ?_
    exact ⟨_, rfl, ⟨_, rfl⟩, J9⟩
  · skip
    obtain ⟨eb3, lb3, ub3⟩ := hb3.resolve_left (fun q => h8 q.1)
    obtain rfl : b3 = nI 1 := eb3.trans (by decide)
    obtain ⟨a10, ha10, rfl⟩ := in_n (n := 11) lb3 ub3 (by decide) rfl (by decide)
    refine ex_iload_n ok_X12_vote (mi 6 rfl) rfl ?_
    refine ex_iconst ok_X12_vote (mi 7 rfl) ?_
    refine ex_bipush ok_X12_vote (mi 8 rfl) ?_
    refine sf_Sp (As := [_, _, _]) ok_X12_vote (mi 9 rfl) rfl (s_in hst) rfl rfl rfl (by decide) (Nat.le_of_ble_eq_true rfl) (by decide) (fun z11 p12 => ?_)
    obtain ⟨b13, rfl, hb13⟩ := p12
    refine ex_if_eq (tgt := 25) ok_X12_vote (mi 10 rfl) rfl (fun h18 => ?_) (fun h18 => ?_)
    · skip
      obtain rfl : b13 = nI 0 := h18.trans (by decide)
      refine ex_iconst ok_X12_vote (mi 13 rfl) ?_
      refine ex_iconst ok_X12_vote (mi 14 rfl) ?_
      refine ex_iconst ok_X12_vote (mi 15 rfl) ?_
      refine sm_V (As := [_, _, _]) ok_X12_vote (mi 16 rfl) rfl (s_ref hst (MI_s I)) rfl (fk (MI_s I) 0 rfl) rfl rfl (by decide) (by decide) (Nat.le_of_ble_eq_true rfl) (by decide) RF_no (fun z14 g18 p15 => ?_)
      obtain ⟨b16, v17, eb16, egb16, hrb16⟩ := p15
      cases eb16
      subst egb16
      have J19 := MI_I (f := 1200) (v := v17) I (by decide)
      obtain rfl : b16 = nI 1 := hrb16.elim (fun q => absurd (show (nI 0 : Int32) = 0 by decide) q.2.1) (fun q => q.1.trans (by decide))
      refine ex_if_eq (tgt := 36) ok_X12_vote (mi 17 rfl) rfl (fun hn => absurd hn (by decide)) (fun _ => ?_)
      refine ex_iconst ok_X12_vote (mi 18 rfl) ?_
      refine ex_iret ok_X12_vote (mi 19 rfl) rfl ?_
      exact ⟨_, rfl, ⟨_, rfl⟩, J19⟩
    · skip
      obtain ⟨eb13, lb13, ub13⟩ := hb13.resolve_left (fun q => h18 q.1)
      obtain rfl : b13 = nI 1 := eb13.trans (by decide)
      obtain ⟨a20, ha20, rfl⟩ := in_n (n := 15) lb13 ub13 (by decide) rfl (by decide)
      refine ex_iconst ok_X12_vote (mi 11 rfl) ?_
      refine ex_goto (tgt := 26) ok_X12_vote (mi 12 rfl) rfl ?_
      refine ex_iconst ok_X12_vote (mi 14 rfl) ?_
      refine ex_iconst ok_X12_vote (mi 15 rfl) ?_
      refine sm_V (As := [_, _, _]) ok_X12_vote (mi 16 rfl) rfl (s_ref hst (MI_s I)) rfl (fk (MI_s I) 0 rfl) rfl rfl (by decide) (by decide) (Nat.le_of_ble_eq_true rfl) (by decide) RF_no (fun z21 g25 p22 => ?_)
      obtain ⟨b23, v24, eb23, egb23, hrb23⟩ := p22
      cases eb23
      subst egb23
      have J26 := MI_I (f := 1200) (v := v24) I (by decide)
      refine ex_if_eq (tgt := 36) ok_X12_vote (mi 17 rfl) rfl (fun h31 => ?_) (fun h31 => ?_)
      · skip
        obtain rfl : b23 = nI 0 := h31.trans (by decide)
        have q27 := hrb23.resolve_right (fun q => absurd q.1 (by decide))
        refine ex_bipush ok_X12_vote (mi 20 rfl) ?_
        refine ex_iload_n ok_X12_vote (mi 21 rfl) rfl ?_
        refine ex_imul ok_X12_vote (mi 22 rfl) ?_
        refine ex_top (w := (nI (16 * a10))) (nI_mulc rfl) ?_
        refine ex_iload_n ok_X12_vote (mi 23 rfl) rfl ?_
        refine ex_iadd ok_X12_vote (mi 24 rfl) ?_
        refine ex_top (w := (nI (16 * a10 + a20))) (nI_add _ _) ?_
        refine ex_istore ok_X12_vote (mi 25 rfl) ?_
        refine ex_aload_n ok_X12_vote (mi 26 rfl) rfl ?_
        refine ex_getRx ok_X12_vote (mi 27 rfl) rfl rfl (fk (MI_s J26) 0 rfl) (fr (MI_s J26) 44 rfl) (fk (MI_s J26) 45 rfl) (by decide) ?_
        refine ex_iload ok_X12_vote (mi 28 rfl) rfl ?_
        refine sm_iald ok_X12_vote (mi 29 rfl) (fk (MI_s J26) 45 rfl) (fn (MI_s J26) 45 rfl) rfl (by omega) (by decide) ?_
        refine ex_gen (fun w28 => ?_)
        refine ex_iconst ok_X12_vote (mi 30 rfl) ?_
        refine ex_icmp_ne (tgt := 59) ok_X12_vote (mi 31 rfl) rfl (fun h52 => ?_) (fun h52 => ?_)
        · skip
          refine ex_iload_n ok_X12_vote (mi 34 rfl) rfl ?_
          refine ex_if_eq (tgt := 73) ok_X12_vote (mi 35 rfl) rfl (fun h60 => ?_) (fun h60 => ?_)
          · skip
            refine ex_aload_n ok_X12_vote (mi 41 rfl) rfl ?_
            refine ex_getRx ok_X12_vote (mi 42 rfl) rfl rfl (fk (MI_s J26) 0 rfl) (fr (MI_s J26) 44 rfl) (fk (MI_s J26) 45 rfl) (by decide) ?_
            refine ex_iload ok_X12_vote (mi 43 rfl) rfl ?_
            refine sm_iald ok_X12_vote (mi 44 rfl) (fk (MI_s J26) 45 rfl) (fn (MI_s J26) 45 rfl) rfl (by omega) (by decide) ?_
            refine ex_gen (fun w29 => ?_)
            refine ex_iret ok_X12_vote (mi 45 rfl) rfl ?_
            exact ⟨_, rfl, ⟨_, rfl⟩, J26⟩
          · skip
            refine ex_aload_n ok_X12_vote (mi 36 rfl) rfl ?_
            refine ex_getRx ok_X12_vote (mi 37 rfl) rfl rfl (fk (MI_s J26) 0 rfl) (fr (MI_s J26) 45 rfl) (fk (MI_s J26) 46 rfl) (by decide) ?_
            refine ex_iload ok_X12_vote (mi 38 rfl) rfl ?_
            refine sm_iald ok_X12_vote (mi 39 rfl) (fk (MI_s J26) 46 rfl) (fn (MI_s J26) 46 rfl) rfl (by omega) (by decide) ?_
            refine ex_gen (fun w30 => ?_)
            refine ex_goto (tgt := 80) ok_X12_vote (mi 40 rfl) rfl ?_
            refine ex_iret ok_X12_vote (mi 45 rfl) rfl ?_
            exact ⟨_, rfl, ⟨_, rfl⟩, J26⟩
        · skip
          refine ex_iconst ok_X12_vote (mi 32 rfl) ?_
          refine ex_goto (tgt := 80) ok_X12_vote (mi 33 rfl) rfl ?_
          refine ex_iret ok_X12_vote (mi 45 rfl) rfl ?_
          exact ⟨_, rfl, ⟨_, rfl⟩, J26⟩
      · skip
        refine ex_iconst ok_X12_vote (mi 18 rfl) ?_
        refine ex_iret ok_X12_vote (mi 19 rfl) rfl ?_
        exact ⟨_, rfl, ⟨_, rfl⟩, J26⟩
theorem s_X12_copy {G : GE} (hst : (ge_l G).stackTraces = false) {y c : Nat} {D : UT} {R : Nat → Prop} {g : GT} (I : MI y D c R g) {p0 : Int32} {p1 : Int32} : ex_M G 2 0 0 my_X12_copy [.ref y, .int p0, .int p1] g (SM y D c R pI) := by
  refine ex_M_of ok_X12_copy cw_X12_copy rfl hst (Nat.le_of_ble_eq_true rfl) ?_
  refine ex_aload_n ok_X12_copy (mi 0 rfl) rfl ?_
  refine ex_iload_n ok_X12_copy (mi 1 rfl) rfl ?_
  refine ex_iconst ok_X12_copy (mi 2 rfl) ?_
  refine ex_iconst ok_X12_copy (mi 3 rfl) ?_
  refine sf_Sp (As := [_, _, _]) ok_X12_copy (mi 4 rfl) rfl (s_in hst) rfl rfl rfl (by decide) (Nat.le_of_ble_eq_true rfl) (by decide) (fun z1 p2 => ?_)
  obtain ⟨b3, rfl, hb3⟩ := p2
  refine ex_if_eq (tgt := 24) ok_X12_copy (mi 5 rfl) rfl (fun h7 => ?_) (fun h7 => ?_)
  · skip
    obtain rfl : b3 = nI 0 := h7.trans (by decide)
    refine ex_iconst ok_X12_copy (mi 13 rfl) ?_
    refine ex_iconst ok_X12_copy (mi 14 rfl) ?_
    refine ex_iconst ok_X12_copy (mi 15 rfl) ?_
    refine sm_V (As := [_, _, _]) ok_X12_copy (mi 16 rfl) rfl (s_ref hst (MI_s I)) rfl (fk (MI_s I) 0 rfl) rfl rfl (by decide) (by decide) (Nat.le_of_ble_eq_true rfl) (by decide) RF_no (fun z4 g8 p5 => ?_)
    obtain ⟨b6, v7, eb6, egb6, hrb6⟩ := p5
    cases eb6
    subst egb6
    have J9 := MI_I (f := 1200) (v := v7) I (by decide)
    obtain rfl : b6 = nI 1 := hrb6.elim (fun q => absurd (show (nI 0 : Int32) = 0 by decide) q.2.1) (fun q => q.1.trans (by decide))
    refine ex_if_eq (tgt := 35) ok_X12_copy (mi 17 rfl) rfl (fun hn => absurd hn (by decide)) (fun _ => ?_)
    refine ex_iconst ok_X12_copy (mi 18 rfl) ?_
    refine ex_iret ok_X12_copy (mi 19 rfl) rfl ?_
    exact ⟨_, rfl, ⟨_, rfl⟩, J9⟩
  · skip
    obtain ⟨eb3, lb3, ub3⟩ := hb3.resolve_left (fun q => h7 q.1)
    obtain rfl : b3 = nI 1 := eb3.trans (by decide)
    obtain ⟨a10, ha10, rfl⟩ := in_n (n := 2) lb3 ub3 (by decide) rfl (by decide)
    refine ex_iload_n ok_X12_copy (mi 6 rfl) rfl ?_
    refine ex_iconst ok_X12_copy (mi 7 rfl) ?_
    refine ex_bipush ok_X12_copy (mi 8 rfl) ?_
    refine sf_Sp (As := [_, _, _]) ok_X12_copy (mi 9 rfl) rfl (s_in hst) rfl rfl rfl (by decide) (Nat.le_of_ble_eq_true rfl) (by decide) (fun z11 p12 => ?_)
    obtain ⟨b13, rfl, hb13⟩ := p12
    refine ex_if_eq (tgt := 24) ok_X12_copy (mi 10 rfl) rfl (fun h17 => ?_) (fun h17 => ?_)
    · skip
      obtain rfl : b13 = nI 0 := h17.trans (by decide)
      refine ex_iconst ok_X12_copy (mi 13 rfl) ?_
      refine ex_iconst ok_X12_copy (mi 14 rfl) ?_
      refine ex_iconst ok_X12_copy (mi 15 rfl) ?_
      refine sm_V (As := [_, _, _]) ok_X12_copy (mi 16 rfl) rfl (s_ref hst (MI_s I)) rfl (fk (MI_s I) 0 rfl) rfl rfl (by decide) (by decide) (Nat.le_of_ble_eq_true rfl) (by decide) RF_no (fun z14 g18 p15 => ?_)
      obtain ⟨b16, v17, eb16, egb16, hrb16⟩ := p15
      cases eb16
      subst egb16
      have J19 := MI_I (f := 1200) (v := v17) I (by decide)
      obtain rfl : b16 = nI 1 := hrb16.elim (fun q => absurd (show (nI 0 : Int32) = 0 by decide) q.2.1) (fun q => q.1.trans (by decide))
      refine ex_if_eq (tgt := 35) ok_X12_copy (mi 17 rfl) rfl (fun hn => absurd hn (by decide)) (fun _ => ?_)
      refine ex_iconst ok_X12_copy (mi 18 rfl) ?_
      refine ex_iret ok_X12_copy (mi 19 rfl) rfl ?_
      exact ⟨_, rfl, ⟨_, rfl⟩, J19⟩
    · skip
      obtain ⟨eb13, lb13, ub13⟩ := hb13.resolve_left (fun q => h17 q.1)
      obtain rfl : b13 = nI 1 := eb13.trans (by decide)
      obtain ⟨a20, ha20, rfl⟩ := in_n (n := 15) lb13 ub13 (by decide) rfl (by decide)
      refine ex_iconst ok_X12_copy (mi 11 rfl) ?_
      refine ex_goto (tgt := 25) ok_X12_copy (mi 12 rfl) rfl ?_
      refine ex_iconst ok_X12_copy (mi 14 rfl) ?_
      refine ex_iconst ok_X12_copy (mi 15 rfl) ?_
      refine sm_V (As := [_, _, _]) ok_X12_copy (mi 16 rfl) rfl (s_ref hst (MI_s I)) rfl (fk (MI_s I) 0 rfl) rfl rfl (by decide) (by decide) (Nat.le_of_ble_eq_true rfl) (by decide) RF_no (fun z21 g25 p22 => ?_)
      obtain ⟨b23, v24, eb23, egb23, hrb23⟩ := p22
      cases eb23
      subst egb23
      have J26 := MI_I (f := 1200) (v := v24) I (by decide)
      refine ex_if_eq (tgt := 35) ok_X12_copy (mi 17 rfl) rfl (fun h30 => ?_) (fun h30 => ?_)
      · skip
        obtain rfl : b23 = nI 0 := h30.trans (by decide)
        have q27 := hrb23.resolve_right (fun q => absurd q.1 (by decide))
        refine ex_aload_n ok_X12_copy (mi 20 rfl) rfl ?_
        refine ex_getRx ok_X12_copy (mi 21 rfl) rfl rfl (fk (MI_s J26) 0 rfl) (fr (MI_s J26) 46 rfl) (fk (MI_s J26) 47 rfl) (by decide) ?_
        refine ex_bipush ok_X12_copy (mi 22 rfl) ?_
        refine ex_iload_n ok_X12_copy (mi 23 rfl) rfl ?_
        refine ex_imul ok_X12_copy (mi 24 rfl) ?_
        refine ex_top (w := (nI (16 * a10))) (nI_mulc rfl) ?_
        refine ex_iload_n ok_X12_copy (mi 25 rfl) rfl ?_
        refine ex_iadd ok_X12_copy (mi 26 rfl) ?_
        refine ex_top (w := (nI (16 * a10 + a20))) (nI_add _ _) ?_
        refine sm_iald ok_X12_copy (mi 27 rfl) (fk (MI_s J26) 47 rfl) (fn (MI_s J26) 47 rfl) rfl (by omega) (by decide) ?_
        refine ex_gen (fun w28 => ?_)
        refine ex_iret ok_X12_copy (mi 28 rfl) rfl ?_
        exact ⟨_, rfl, ⟨_, rfl⟩, J26⟩
      · skip
        refine ex_iconst ok_X12_copy (mi 18 rfl) ?_
        refine ex_iret ok_X12_copy (mi 19 rfl) rfl ?_
        exact ⟨_, rfl, ⟨_, rfl⟩, J26⟩
theorem s_X12_agreed {G : GE} (hst : (ge_l G).stackTraces = false) {y c : Nat} {D : UT} {R : Nat → Prop} {g : GT} (I : MI y D c R g) {p0 : Int32} : ex_M G 2 0 0 my_X12_agreed [.ref y, .int p0] g (SM y D c R pI) := by
  refine ex_M_of ok_X12_agreed cw_X12_agreed rfl hst (Nat.le_of_ble_eq_true rfl) ?_
  refine ex_aload_n ok_X12_agreed (mi 0 rfl) rfl ?_
  refine ex_iload_n ok_X12_agreed (mi 1 rfl) rfl ?_
  refine ex_iconst ok_X12_agreed (mi 2 rfl) ?_
  refine ex_bipush ok_X12_agreed (mi 3 rfl) ?_
  refine sf_Sp (As := [_, _, _]) ok_X12_agreed (mi 4 rfl) rfl (s_in hst) rfl rfl rfl (by decide) (Nat.le_of_ble_eq_true rfl) (by decide) (fun z1 p2 => ?_)
  obtain ⟨b3, rfl, hb3⟩ := p2
  refine ex_iconst ok_X12_agreed (mi 5 rfl) ?_
  refine ex_iconst ok_X12_agreed (mi 6 rfl) ?_
  refine sm_V (As := [_, _, _]) ok_X12_agreed (mi 7 rfl) rfl (s_ref hst (MI_s I)) rfl (fk (MI_s I) 0 rfl) rfl rfl (by decide) (by decide) (Nat.le_of_ble_eq_true rfl) (by decide) RF_no (fun z4 g8 p5 => ?_)
  obtain ⟨b6, v7, eb6, egb6, hrb6⟩ := p5
  cases eb6
  subst egb6
  have J9 := MI_I (f := 1200) (v := v7) I (by decide)
  refine ex_if_eq (tgt := 20) ok_X12_agreed (mi 8 rfl) rfl (fun h13 => ?_) (fun h13 => ?_)
  · skip
    obtain rfl : b6 = nI 0 := h13.trans (by decide)
    have q10 := hrb6.resolve_right (fun q => absurd q.1 (by decide))
    obtain ⟨eb3, lb3, ub3⟩ := hb3.resolve_left (fun q => q10.2.1 q.1)
    obtain rfl : b3 = nI 1 := eb3.trans (by decide)
    obtain ⟨a11, ha11, rfl⟩ := in_n (n := 15) lb3 ub3 (by decide) rfl (by decide)
    refine ex_aload_n ok_X12_agreed (mi 11 rfl) rfl ?_
    refine ex_getRx ok_X12_agreed (mi 12 rfl) rfl rfl (fk (MI_s J9) 0 rfl) (fr (MI_s J9) 58 rfl) (fk (MI_s J9) 59 rfl) (by decide) ?_
    refine ex_iload_n ok_X12_agreed (mi 13 rfl) rfl ?_
    refine sm_iald ok_X12_agreed (mi 14 rfl) (fk (MI_s J9) 59 rfl) (fn (MI_s J9) 59 rfl) rfl (by omega) (by decide) ?_
    refine ex_gen (fun w12 => ?_)
    refine ex_iret ok_X12_agreed (mi 15 rfl) rfl ?_
    exact ⟨_, rfl, ⟨_, rfl⟩, J9⟩
  · skip
    refine ex_iconst ok_X12_agreed (mi 9 rfl) ?_
    refine ex_goto (tgt := 26) ok_X12_agreed (mi 10 rfl) rfl ?_
    refine ex_iret ok_X12_agreed (mi 15 rfl) rfl ?_
    exact ⟨_, rfl, ⟨_, rfl⟩, J9⟩
theorem s_X12_count {G : GE} (hst : (ge_l G).stackTraces = false) {y c : Nat} {D : UT} {R : Nat → Prop} {g : GT} (I : MI y D c R g) {p0 : Int32} : ex_M G 2 0 0 my_X12_count [.ref y, .int p0] g (SM y D c R pI) := by
  refine ex_M_of ok_X12_count cw_X12_count rfl hst (Nat.le_of_ble_eq_true rfl) ?_
  refine ex_aload_n ok_X12_count (mi 0 rfl) rfl ?_
  refine ex_iload_n ok_X12_count (mi 1 rfl) rfl ?_
  refine ex_iconst ok_X12_count (mi 2 rfl) ?_
  refine ex_iconst ok_X12_count (mi 3 rfl) ?_
  refine sf_Sp (As := [_, _, _]) ok_X12_count (mi 4 rfl) rfl (s_in hst) rfl rfl rfl (by decide) (Nat.le_of_ble_eq_true rfl) (by decide) (fun z1 p2 => ?_)
  obtain ⟨b3, rfl, hb3⟩ := p2
  refine ex_iconst ok_X12_count (mi 5 rfl) ?_
  refine ex_iconst ok_X12_count (mi 6 rfl) ?_
  refine sm_V (As := [_, _, _]) ok_X12_count (mi 7 rfl) rfl (s_ref hst (MI_s I)) rfl (fk (MI_s I) 0 rfl) rfl rfl (by decide) (by decide) (Nat.le_of_ble_eq_true rfl) (by decide) RF_no (fun z4 g8 p5 => ?_)
  obtain ⟨b6, v7, eb6, egb6, hrb6⟩ := p5
  cases eb6
  subst egb6
  have J9 := MI_I (f := 1200) (v := v7) I (by decide)
  refine ex_if_eq (tgt := 17) ok_X12_count (mi 8 rfl) rfl (fun h12 => ?_) (fun h12 => ?_)
  · skip
    obtain rfl : b6 = nI 0 := h12.trans (by decide)
    have q10 := hrb6.resolve_right (fun q => absurd q.1 (by decide))
    obtain ⟨eb3, lb3, ub3⟩ := hb3.resolve_left (fun q => q10.2.1 q.1)
    obtain rfl : b3 = nI 1 := eb3.trans (by decide)
    obtain ⟨a11, ha11, rfl⟩ := in_n (n := 5) lb3 ub3 (by decide) rfl (by decide)
    rcases (by omega : a11 = 0 ∨ a11 = 1 ∨ a11 = 2 ∨ a11 = 3 ∨ a11 = 4 ∨ a11 = 5) with rfl | rfl | rfl | rfl | rfl | rfl
    · skip
      refine ex_iload_n ok_X12_count (mi 11 rfl) rfl ?_
      refine ex_if_ne (tgt := 28) ok_X12_count (mi 12 rfl) rfl (fun hn => absurd (by decide) hn) (fun _ => ?_)
      refine ex_aload_n ok_X12_count (mi 13 rfl) rfl ?_
      refine ex_getI ok_X12_count (mi 14 rfl) rfl rfl (fk (MI_s J9) 0 rfl) ?_
      refine ex_gen (fun w12 => ?_)
      refine ex_goto (tgt := 80) ok_X12_count (mi 15 rfl) rfl ?_
      refine ex_iret ok_X12_count (mi 42 rfl) rfl ?_
      exact ⟨_, rfl, ⟨_, rfl⟩, J9⟩
    · skip
      refine ex_iload_n ok_X12_count (mi 11 rfl) rfl ?_
      refine ex_if_ne (tgt := 28) ok_X12_count (mi 12 rfl) rfl (fun _ => ?_) (fun hn => absurd hn (by decide))
      refine ex_iload_n ok_X12_count (mi 16 rfl) rfl ?_
      refine ex_iconst ok_X12_count (mi 17 rfl) ?_
      refine ex_icmp_ne (tgt := 40) ok_X12_count (mi 18 rfl) rfl (fun hn => absurd (by decide) hn) (fun _ => ?_)
      refine ex_aload_n ok_X12_count (mi 19 rfl) rfl ?_
      refine ex_getI ok_X12_count (mi 20 rfl) rfl rfl (fk (MI_s J9) 0 rfl) ?_
      refine ex_gen (fun w13 => ?_)
      refine ex_goto (tgt := 80) ok_X12_count (mi 21 rfl) rfl ?_
      refine ex_iret ok_X12_count (mi 42 rfl) rfl ?_
      exact ⟨_, rfl, ⟨_, rfl⟩, J9⟩
    · skip
      refine ex_iload_n ok_X12_count (mi 11 rfl) rfl ?_
      refine ex_if_ne (tgt := 28) ok_X12_count (mi 12 rfl) rfl (fun _ => ?_) (fun hn => absurd hn (by decide))
      refine ex_iload_n ok_X12_count (mi 16 rfl) rfl ?_
      refine ex_iconst ok_X12_count (mi 17 rfl) ?_
      refine ex_icmp_ne (tgt := 40) ok_X12_count (mi 18 rfl) rfl (fun _ => ?_) (fun hn => absurd hn (by decide))
      refine ex_iload_n ok_X12_count (mi 22 rfl) rfl ?_
      refine ex_iconst ok_X12_count (mi 23 rfl) ?_
      refine ex_icmp_ne (tgt := 52) ok_X12_count (mi 24 rfl) rfl (fun hn => absurd (by decide) hn) (fun _ => ?_)
      refine ex_aload_n ok_X12_count (mi 25 rfl) rfl ?_
      refine ex_getI ok_X12_count (mi 26 rfl) rfl rfl (fk (MI_s J9) 0 rfl) ?_
      refine ex_gen (fun w14 => ?_)
      refine ex_goto (tgt := 80) ok_X12_count (mi 27 rfl) rfl ?_
      refine ex_iret ok_X12_count (mi 42 rfl) rfl ?_
      exact ⟨_, rfl, ⟨_, rfl⟩, J9⟩
    · skip
      refine ex_iload_n ok_X12_count (mi 11 rfl) rfl ?_
      refine ex_if_ne (tgt := 28) ok_X12_count (mi 12 rfl) rfl (fun _ => ?_) (fun hn => absurd hn (by decide))
      refine ex_iload_n ok_X12_count (mi 16 rfl) rfl ?_
      refine ex_iconst ok_X12_count (mi 17 rfl) ?_
      refine ex_icmp_ne (tgt := 40) ok_X12_count (mi 18 rfl) rfl (fun _ => ?_) (fun hn => absurd hn (by decide))
      refine ex_iload_n ok_X12_count (mi 22 rfl) rfl ?_
      refine ex_iconst ok_X12_count (mi 23 rfl) ?_
      refine ex_icmp_ne (tgt := 52) ok_X12_count (mi 24 rfl) rfl (fun _ => ?_) (fun hn => absurd hn (by decide))
      refine ex_iload_n ok_X12_count (mi 28 rfl) rfl ?_
      refine ex_iconst ok_X12_count (mi 29 rfl) ?_
      refine ex_icmp_ne (tgt := 64) ok_X12_count (mi 30 rfl) rfl (fun hn => absurd (by decide) hn) (fun _ => ?_)
      refine ex_aload_n ok_X12_count (mi 31 rfl) rfl ?_
      refine ex_getI ok_X12_count (mi 32 rfl) rfl rfl (fk (MI_s J9) 0 rfl) ?_
      refine ex_gen (fun w15 => ?_)
      refine ex_goto (tgt := 80) ok_X12_count (mi 33 rfl) rfl ?_
      refine ex_iret ok_X12_count (mi 42 rfl) rfl ?_
      exact ⟨_, rfl, ⟨_, rfl⟩, J9⟩
    · skip
      refine ex_iload_n ok_X12_count (mi 11 rfl) rfl ?_
      refine ex_if_ne (tgt := 28) ok_X12_count (mi 12 rfl) rfl (fun _ => ?_) (fun hn => absurd hn (by decide))
      refine ex_iload_n ok_X12_count (mi 16 rfl) rfl ?_
      refine ex_iconst ok_X12_count (mi 17 rfl) ?_
      refine ex_icmp_ne (tgt := 40) ok_X12_count (mi 18 rfl) rfl (fun _ => ?_) (fun hn => absurd hn (by decide))
      refine ex_iload_n ok_X12_count (mi 22 rfl) rfl ?_
      refine ex_iconst ok_X12_count (mi 23 rfl) ?_
      refine ex_icmp_ne (tgt := 52) ok_X12_count (mi 24 rfl) rfl (fun _ => ?_) (fun hn => absurd hn (by decide))
      refine ex_iload_n ok_X12_count (mi 28 rfl) rfl ?_
      refine ex_iconst ok_X12_count (mi 29 rfl) ?_
      refine ex_icmp_ne (tgt := 64) ok_X12_count (mi 30 rfl) rfl (fun _ => ?_) (fun hn => absurd hn (by decide))
      refine ex_iload_n ok_X12_count (mi 34 rfl) rfl ?_
      refine ex_iconst ok_X12_count (mi 35 rfl) ?_
      refine ex_icmp_ne (tgt := 76) ok_X12_count (mi 36 rfl) rfl (fun hn => absurd (by decide) hn) (fun _ => ?_)
      refine ex_aload_n ok_X12_count (mi 37 rfl) rfl ?_
      refine ex_getI ok_X12_count (mi 38 rfl) rfl rfl (fk (MI_s J9) 0 rfl) ?_
      refine ex_gen (fun w16 => ?_)
      refine ex_goto (tgt := 80) ok_X12_count (mi 39 rfl) rfl ?_
      refine ex_iret ok_X12_count (mi 42 rfl) rfl ?_
      exact ⟨_, rfl, ⟨_, rfl⟩, J9⟩
    · skip
      refine ex_iload_n ok_X12_count (mi 11 rfl) rfl ?_
      refine ex_if_ne (tgt := 28) ok_X12_count (mi 12 rfl) rfl (fun _ => ?_) (fun hn => absurd hn (by decide))
      refine ex_iload_n ok_X12_count (mi 16 rfl) rfl ?_
      refine ex_iconst ok_X12_count (mi 17 rfl) ?_
      refine ex_icmp_ne (tgt := 40) ok_X12_count (mi 18 rfl) rfl (fun _ => ?_) (fun hn => absurd hn (by decide))
      refine ex_iload_n ok_X12_count (mi 22 rfl) rfl ?_
      refine ex_iconst ok_X12_count (mi 23 rfl) ?_
      refine ex_icmp_ne (tgt := 52) ok_X12_count (mi 24 rfl) rfl (fun _ => ?_) (fun hn => absurd hn (by decide))
      refine ex_iload_n ok_X12_count (mi 28 rfl) rfl ?_
      refine ex_iconst ok_X12_count (mi 29 rfl) ?_
      refine ex_icmp_ne (tgt := 64) ok_X12_count (mi 30 rfl) rfl (fun _ => ?_) (fun hn => absurd hn (by decide))
      refine ex_iload_n ok_X12_count (mi 34 rfl) rfl ?_
      refine ex_iconst ok_X12_count (mi 35 rfl) ?_
      refine ex_icmp_ne (tgt := 76) ok_X12_count (mi 36 rfl) rfl (fun _ => ?_) (fun hn => absurd hn (by decide))
      refine ex_aload_n ok_X12_count (mi 40 rfl) rfl ?_
      refine ex_getI ok_X12_count (mi 41 rfl) rfl rfl (fk (MI_s J9) 0 rfl) ?_
      refine ex_gen (fun w17 => ?_)
      refine ex_iret ok_X12_count (mi 42 rfl) rfl ?_
      exact ⟨_, rfl, ⟨_, rfl⟩, J9⟩
  · skip
    refine ex_iconst ok_X12_count (mi 9 rfl) ?_
    refine ex_iret ok_X12_count (mi 10 rfl) rfl ?_
    exact ⟨_, rfl, ⟨_, rfl⟩, J9⟩
