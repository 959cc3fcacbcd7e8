theorem s_X12_seed {G : GE} (hst : (ge_l G).stackTraces = false) {y c : Nat} {D : UT} {R : Nat → Prop} {g : GT} (I : MI y D c R g) {a0 : Nat} (ha0 : a0 < 3) {p1 : Int32} : ex_M G 2 0 0 my_X12_seed [.ref y, .int (nI (a0)), .int p1] g (SM y D c R pI) := by
  refine ex_M_of ok_X12_seed cw_X12_seed rfl hst (Nat.le_of_ble_eq_true rfl) ?_
  refine ex_iconst ok_X12_seed (mi 0 rfl) ?_
  refine ex_istore_n ok_X12_seed (mi 1 rfl) ?_
  refine ex_iconst ok_X12_seed (mi 2 rfl) ?_
  refine ex_istore ok_X12_seed (mi 3 rfl) ?_
  have lp5 : ∀ n5 k5 : Nat, k5 + n5 = 9 → ∀ (q1 : Int32) (g2 : GT), MI y D c R g2 → ex_W G 2 0 0 M_X12_seed 5 [(0, .ref y), (1, .int (nI (a0))), (2, .int p1), (3, .int q1), (4, .int (nI (k5)))] [] g2 (SM y D c R pI) := by
    intro n5
    induction n5 with
    | zero =>
      intro k5 he5 q1 g2 J3 
      obtain rfl : k5 = 9 := by omega
      refine ex_iload ok_X12_seed (mi 4 rfl) rfl ?_
      refine ex_bipush ok_X12_seed (mi 5 rfl) ?_
      refine ex_icmp_ge (tgt := 123) ok_X12_seed (mi 6 rfl) rfl (fun _ => ?_) (fun hn => absurd (by decide) hn)
      refine ex_iload_n ok_X12_seed (mi 66 rfl) rfl ?_
      refine ex_iret ok_X12_seed (mi 67 rfl) rfl ?_
      exact ⟨_, rfl, ⟨_, rfl⟩, J3⟩
    | succ n5 ih5 =>
      intro k5 he5 q1 g2 J3 
      have hr5 : k5 < 9 := by omega
      refine ex_iload ok_X12_seed (mi 4 rfl) rfl ?_
      refine ex_bipush ok_X12_seed (mi 5 rfl) ?_
      refine ex_icmp_ge (tgt := 123) ok_X12_seed (mi 6 rfl) rfl (fun hn => absurd hn (nI_ge (b := 9) hr5 (by decide))) (fun _ => ?_)
      refine ex_iload_n ok_X12_seed (mi 7 rfl) rfl ?_
      refine ex_iload ok_X12_seed (mi 8 rfl) rfl ?_
      refine sf_Sp (As := [_, _]) ok_X12_seed (mi 9 rfl) rfl (s_X12_has hst (MI_s J3)) rfl rfl rfl (by decide) (Nat.le_of_ble_eq_true rfl) (by decide) (fun z4 p5 => ?_)
      obtain ⟨v8, rfl, hbv8⟩ := p5
      refine ex_if_eq (tgt := 117) ok_X12_seed (mi 10 rfl) rfl (fun h18 => ?_) (fun h18 => ?_)
      · skip
        refine ex_iincx (w := (nI (k5 + 1))) ok_X12_seed (mi 64 rfl) rfl (nI_1 _) ?_
        refine ex_goto (tgt := 5) ok_X12_seed (mi 65 rfl) rfl ?_
        exact ex_ls (ls' := [(0, .ref y), (1, .int (nI (a0))), (2, .int p1), (3, .int q1), (4, .int (nI (k5 + 1)))]) ⟨rfl, rfl, rfl, rfl, rfl, trivial⟩ (ih5 (k5 + 1) (by omega) _ g2 J3 )
      · skip
        refine ex_iinc ok_X12_seed (mi 11 rfl) rfl ?_
        refine ex_aload_n ok_X12_seed (mi 12 rfl) rfl ?_
        refine ex_bipush ok_X12_seed (mi 13 rfl) ?_
        refine ex_iload_n ok_X12_seed (mi 14 rfl) rfl ?_
        refine ex_iload ok_X12_seed (mi 15 rfl) rfl ?_
        refine ex_aload_n ok_X12_seed (mi 16 rfl) rfl ?_
        refine ex_getRx ok_X12_seed (mi 17 rfl) rfl rfl (fk (MI_s J3) 0 rfl) (fr (MI_s J3) 4 rfl) (fk (MI_s J3) 5 rfl) (by decide) ?_
        refine ex_iload_n ok_X12_seed (mi 18 rfl) rfl ?_
        refine sm_iald ok_X12_seed (mi 19 rfl) (fk (MI_s J3) 5 rfl) (fn (MI_s J3) 5 rfl) rfl (by omega) (by decide) ?_
        refine ex_gen (fun w9 => ?_)
        refine ex_iconst ok_X12_seed (mi 20 rfl) ?_
        refine ex_iadd ok_X12_seed (mi 21 rfl) ?_
        refine ex_gen (fun w10 => ?_)
        refine ex_aload_n ok_X12_seed (mi 22 rfl) rfl ?_
        refine ex_getRx ok_X12_seed (mi 23 rfl) rfl rfl (fk (MI_s J3) 0 rfl) (fr (MI_s J3) 26 rfl) (fk (MI_s J3) 27 rfl) (by decide) ?_
        refine ex_iload_n ok_X12_seed (mi 24 rfl) rfl ?_
        refine sm_iald ok_X12_seed (mi 25 rfl) (fk (MI_s J3) 27 rfl) (fn (MI_s J3) 27 rfl) rfl (by omega) (by decide) ?_
        obtain ⟨v11, hv11, ev11⟩ := vp_in_of (n := 512) (MI_bd J3 6 rfl (i := a0) (by omega)) (by decide)
        refine ex_top (w := nI v11) ev11 ?_
        refine ex_aload_n ok_X12_seed (mi 26 rfl) rfl ?_
        refine ex_getRx ok_X12_seed (mi 27 rfl) rfl rfl (fk (MI_s J3) 0 rfl) (fr (MI_s J3) 29 rfl) (fk (MI_s J3) 30 rfl) (by decide) ?_
        refine ex_iload_n ok_X12_seed (mi 28 rfl) rfl ?_
        refine sm_iald ok_X12_seed (mi 29 rfl) (fk (MI_s J3) 30 rfl) (fn (MI_s J3) 30 rfl) rfl (by omega) (by decide) ?_
        obtain ⟨v12, hv12, ev12⟩ := vp_in_of (n := 300) (MI_bd J3 7 rfl (i := a0) (by omega)) (by decide)
        refine ex_top (w := nI v12) ev12 ?_
        refine sm_V (As := [_, _, _, _, _, _]) ok_X12_seed (mi 30 rfl) rfl (s_X12_lay hst J3 (κ := 18) (by decide) (Or.inr (vp_in_nI (N := 3) (by omega) (by decide))) (Or.inr (vp_in_nI (N := 9) (by omega) (by decide))) (Or.inl rfl) (Or.inr (vp_in_nI (N := 512) (by omega) (by decide))) (Or.inr (vp_in_nI (N := 300) (by omega) (by decide)))) rfl (fk (MI_s J3) 0 rfl) rfl rfl (by decide) (by decide) (Nat.le_of_ble_eq_true rfl) (by decide) LV_no (fun z13 g15 p14 => ?_)
        obtain ⟨b17, eb17, hb17, J16, lb17⟩ := p14
        cases eb17
        refine ex_if_eq (tgt := 117) ok_X12_seed (mi 31 rfl) rfl (fun h53 => ?_) (fun h53 => ?_)
        · skip
          refine ex_iincx (w := (nI (k5 + 1))) ok_X12_seed (mi 64 rfl) rfl (nI_1 _) ?_
          refine ex_goto (tgt := 5) ok_X12_seed (mi 65 rfl) rfl ?_
          exact ex_ls (ls' := [(0, .ref y), (1, .int (nI (a0))), (2, .int p1), (3, .int (q1 + Int32.ofInt (1))), (4, .int (nI (k5 + 1)))]) ⟨rfl, rfl, rfl, rfl, rfl, trivial⟩ (ih5 (k5 + 1) (by omega) _ g15 J16 )
        · skip
          obtain ⟨t18, ht18, lt18, kt18⟩ := lb17 h53
          refine ex_aload_n ok_X12_seed (mi 32 rfl) rfl ?_
          refine ex_getRx ok_X12_seed (mi 33 rfl) rfl rfl (fk (MI_s J16) 0 rfl) (fr (MI_s J16) 29 rfl) (fk (MI_s J16) 30 rfl) (by decide) ?_
          refine ex_iload_n ok_X12_seed (mi 34 rfl) rfl ?_
          refine sm_iald ok_X12_seed (mi 35 rfl) (fk (MI_s J16) 30 rfl) (fn (MI_s J16) 30 rfl) rfl (by omega) (by decide) ?_
          obtain ⟨v19, hv19, ev19⟩ := vp_in_of (n := 300) (MI_bd J16 7 rfl (i := a0) (by omega)) (by decide)
          refine ex_top (w := nI v19) ev19 ?_
          refine ex_istore ok_X12_seed (mi 36 rfl) ?_
          have lp64 : ∀ n64 k64 : Nat, k64 + n64 = 300 → ∀ (g20 : GT), MI y D c R g20 → ∀ mm64 : Nat, mm64 ≤ k64 → gx_I g20 1258 y = nI t18 → MK y g20 t18 18 mm64 → ex_W G 2 0 0 M_X12_seed 64 [(0, .ref y), (1, .int (nI (a0))), (2, .int p1), (3, .int (q1 + Int32.ofInt (1))), (4, .int (nI (k5))), (5, .int (nI (k64)))] [] g20 (SM y D c R pI) := by
            intro n64
            induction n64 with
            | zero =>
              intro k64 he64  g20 J21  mm64 hmm64 hll64 hkk64
              obtain rfl : k64 = 300 := by omega
              refine ex_iload ok_X12_seed (mi 37 rfl) rfl ?_
              refine ex_sipush ok_X12_seed (mi 38 rfl) ?_
              refine ex_icmp_ge (tgt := 117) ok_X12_seed (mi 39 rfl) rfl (fun _ => ?_) (fun hn => absurd (by decide) hn)
              refine ex_iincx (w := (nI (k5 + 1))) ok_X12_seed (mi 64 rfl) rfl (nI_1 _) ?_
              refine ex_goto (tgt := 5) ok_X12_seed (mi 65 rfl) rfl ?_
              exact ex_ls (ls' := [(0, .ref y), (1, .int (nI (a0))), (2, .int p1), (3, .int (q1 + Int32.ofInt (1))), (4, .int (nI (k5 + 1)))]) ⟨rfl, rfl, rfl, rfl, rfl, trivial⟩ (ih5 (k5 + 1) (by omega) _ g20 J21 )
            | succ n64 ih64 =>
              intro k64 he64  g20 J21  mm64 hmm64 hll64 hkk64
              have hr64 : k64 < 300 := by omega
              refine ex_iload ok_X12_seed (mi 37 rfl) rfl ?_
              refine ex_sipush ok_X12_seed (mi 38 rfl) ?_
              refine ex_icmp_ge (tgt := 117) ok_X12_seed (mi 39 rfl) rfl (fun hn => absurd hn (nI_ge (b := 300) hr64 (by decide))) (fun _ => ?_)
              refine ex_aload_n ok_X12_seed (mi 40 rfl) rfl ?_
              refine ex_getRx ok_X12_seed (mi 41 rfl) rfl rfl (fk (MI_s J21) 0 rfl) (fr (MI_s J21) 30 rfl) (fk (MI_s J21) 31 rfl) (by decide) ?_
              refine ex_sipush ok_X12_seed (mi 42 rfl) ?_
              refine ex_iload_n ok_X12_seed (mi 43 rfl) rfl ?_
              refine ex_imul ok_X12_seed (mi 44 rfl) ?_
              refine ex_top (w := (nI (300 * a0))) (nI_mulc rfl) ?_
              refine ex_iload ok_X12_seed (mi 45 rfl) rfl ?_
              refine ex_iadd ok_X12_seed (mi 46 rfl) ?_
              refine ex_top (w := (nI (300 * a0 + k64))) (nI_add _ _) ?_
              refine sm_iald ok_X12_seed (mi 47 rfl) (fk (MI_s J21) 31 rfl) (fn (MI_s J21) 31 rfl) rfl (by omega) (by decide) ?_
              refine ex_gen (fun w22 => ?_)
              refine ex_if_eq (tgt := 111) ok_X12_seed (mi 48 rfl) rfl (fun h85 => ?_) (fun h85 => ?_)
              · skip
                refine ex_iincx (w := (nI (k64 + 1))) ok_X12_seed (mi 62 rfl) rfl (nI_1 _) ?_
                refine ex_goto (tgt := 64) ok_X12_seed (mi 63 rfl) rfl ?_
                exact ex_ls (ls' := [(0, .ref y), (1, .int (nI (a0))), (2, .int p1), (3, .int (q1 + Int32.ofInt (1))), (4, .int (nI (k5))), (5, .int (nI (k64 + 1)))]) ⟨rfl, rfl, rfl, rfl, rfl, rfl, trivial⟩ (ih64 (k64 + 1) (by omega) g20 J21  (mm64) (by omega) hll64 hkk64)
              · skip
                refine ex_aload_n ok_X12_seed (mi 49 rfl) rfl ?_
                refine ex_aload_n ok_X12_seed (mi 50 rfl) rfl ?_
                refine ex_getI ok_X12_seed (mi 51 rfl) rfl rfl (fk (MI_s J21) 0 rfl) ?_
                refine ex_top (w := nI t18) hll64 ?_
                refine ex_iload ok_X12_seed (mi 52 rfl) rfl ?_
                refine ex_aload_n ok_X12_seed (mi 53 rfl) rfl ?_
                refine ex_getRx ok_X12_seed (mi 54 rfl) rfl rfl (fk (MI_s J21) 0 rfl) (fr (MI_s J21) 30 rfl) (fk (MI_s J21) 31 rfl) (by decide) ?_
                refine ex_sipush ok_X12_seed (mi 55 rfl) ?_
                refine ex_iload_n ok_X12_seed (mi 56 rfl) rfl ?_
                refine ex_imul ok_X12_seed (mi 57 rfl) ?_
                refine ex_top (w := (nI (300 * a0))) (nI_mulc rfl) ?_
                refine ex_iload ok_X12_seed (mi 58 rfl) rfl ?_
                refine ex_iadd ok_X12_seed (mi 59 rfl) ?_
                refine ex_top (w := (nI (300 * a0 + k64))) (nI_add _ _) ?_
                refine sm_iald ok_X12_seed (mi 60 rfl) (fk (MI_s J21) 31 rfl) (fn (MI_s J21) 31 rfl) rfl (by omega) (by decide) ?_
                refine ex_gen (fun w23 => ?_)
                refine sm_V (As := [_, _, _]) ok_X12_seed (mi 61 rfl) rfl (s_X12_addEntry hst J21 ht18 hkk64 (by decide) (by omega) (by omega)) rfl (fk (MI_s J21) 0 rfl) rfl rfl (by decide) (by decide) (Nat.le_of_ble_eq_true rfl) (by decide) AE_no (fun z24 g26 p25 => ?_)
                obtain ⟨ez24, J27, ll28, mk29⟩ := p25
                cases ez24
                have ll28' := ll28.trans hll64
                refine ex_iincx (w := (nI (k64 + 1))) ok_X12_seed (mi 62 rfl) rfl (nI_1 _) ?_
                refine ex_goto (tgt := 64) ok_X12_seed (mi 63 rfl) rfl ?_
                exact ex_ls (ls' := [(0, .ref y), (1, .int (nI (a0))), (2, .int p1), (3, .int (q1 + Int32.ofInt (1))), (4, .int (nI (k5))), (5, .int (nI (k64 + 1)))]) ⟨rfl, rfl, rfl, rfl, rfl, rfl, trivial⟩ (ih64 (k64 + 1) (by omega) g26 J27  (mm64 + 1) (by omega) ll28' mk29)
          exact ex_ls (ls' := [(0, .ref y), (1, .int (nI (a0))), (2, .int p1), (3, .int (q1 + Int32.ofInt (1))), (4, .int (nI (k5))), (5, .int (nI (v19)))]) ⟨rfl, rfl, rfl, rfl, rfl, rfl, trivial⟩ (lp64 (300 - v19) (v19) (by omega) g15 J16  (0) (by omega) lt18 kt18)
  exact ex_ls (ls' := [(0, .ref y), (1, .int (nI (a0))), (2, .int p1), (3, .int (nI 0)), (4, .int (nI 0))]) ⟨rfl, rfl, rfl, rfl, rfl, trivial⟩ (lp5 (9 - 0) (0) (by omega) _ g I )
theorem s_X12_stopped {G : GE} (hst : (ge_l G).stackTraces = false) {y c : Nat} {D : UT} {R : Nat → Prop} {g : GT} (I : MI y D c R g) {a0 : Nat} (ha0 : a0 < 3) {a1 : Nat} (ha1 : a1 < 402) {m : Nat} (hmk : MK y g a1 17 m) : ex_M G 4 0 0 my_X12_stopped [.ref y, .int (nI (a0)), .int (nI (a1))] g (SM y D c R pN) := by
  refine ex_M_of ok_X12_stopped cw_X12_stopped rfl hst (Nat.le_of_ble_eq_true rfl) ?_
  have hm3 : m < 301 := hmk.2.2.2.2.2.2.2.1
  refine ex_aload_n ok_X12_stopped (mi 0 rfl) rfl ?_
  refine ex_getRx ok_X12_stopped (mi 1 rfl) rfl rfl (fk (MI_s I) 0 rfl) (fr (MI_s I) 25 rfl) (fk (MI_s I) 26 rfl) (by decide) ?_
  refine ex_iload_n ok_X12_stopped (mi 2 rfl) rfl ?_
  refine sm_iald ok_X12_stopped (mi 3 rfl) (fk (MI_s I) 26 rfl) (fn (MI_s I) 26 rfl) rfl (by omega) (by decide) ?_
  refine ex_gen (fun w1 => ?_)
  refine ex_iconst ok_X12_stopped (mi 4 rfl) ?_
  refine ex_icmp_ne (tgt := 46) ok_X12_stopped (mi 5 rfl) rfl (fun h7 => ?_) (fun h7 => ?_)
  · skip
    refine ex_vret ok_X12_stopped (mi 30 rfl) rfl ?_
    exact ⟨_, rfl, rfl, I⟩
  · skip
    refine ex_aload_n ok_X12_stopped (mi 6 rfl) rfl ?_
    refine ex_getRx ok_X12_stopped (mi 7 rfl) rfl rfl (fk (MI_s I) 0 rfl) (fr (MI_s I) 52 rfl) (fk (MI_s I) 53 rfl) (by decide) ?_
    refine ex_iconst ok_X12_stopped (mi 8 rfl) ?_
    refine ex_iload_n ok_X12_stopped (mi 9 rfl) rfl ?_
    refine ex_imul ok_X12_stopped (mi 10 rfl) ?_
    refine ex_top (w := (nI (3 * a1))) (nI_mulc rfl) ?_
    refine sm_iald ok_X12_stopped (mi 11 rfl) (fk (MI_s I) 53 rfl) (fn (MI_s I) 53 rfl) rfl (by omega) (by decide) ?_
    refine ex_gen (fun w2 => ?_)
    refine ex_aload_n ok_X12_stopped (mi 12 rfl) rfl ?_
    refine ex_getRx ok_X12_stopped (mi 13 rfl) rfl rfl (fk (MI_s I) 0 rfl) (fr (MI_s I) 4 rfl) (fk (MI_s I) 5 rfl) (by decide) ?_
    refine ex_iload_n ok_X12_stopped (mi 14 rfl) rfl ?_
    refine sm_iald ok_X12_stopped (mi 15 rfl) (fk (MI_s I) 5 rfl) (fn (MI_s I) 5 rfl) rfl (by omega) (by decide) ?_
    refine ex_gen (fun w3 => ?_)
    refine ex_icmp_ne (tgt := 46) ok_X12_stopped (mi 16 rfl) rfl (fun h24 => ?_) (fun h24 => ?_)
    · skip
      refine ex_vret ok_X12_stopped (mi 30 rfl) rfl ?_
      exact ⟨_, rfl, rfl, I⟩
    · skip
      refine ex_aload_n ok_X12_stopped (mi 17 rfl) rfl ?_
      refine ex_getRx ok_X12_stopped (mi 18 rfl) rfl rfl (fk (MI_s I) 0 rfl) (fr (MI_s I) 52 rfl) (fk (MI_s I) 53 rfl) (by decide) ?_
      refine ex_iconst ok_X12_stopped (mi 19 rfl) ?_
      refine ex_iload_n ok_X12_stopped (mi 20 rfl) rfl ?_
      refine ex_imul ok_X12_stopped (mi 21 rfl) ?_
      refine ex_top (w := (nI (3 * a1))) (nI_mulc rfl) ?_
      refine ex_iconst ok_X12_stopped (mi 22 rfl) ?_
      refine ex_iadd ok_X12_stopped (mi 23 rfl) ?_
      refine ex_top (w := (nI (3 * a1 + 1))) (nI_add _ 1) ?_
      refine sm_iald ok_X12_stopped (mi 24 rfl) (fk (MI_s I) 53 rfl) (fn (MI_s I) 53 rfl) rfl (by omega) (by decide) ?_
      refine ex_gen (fun w4 => ?_)
      refine ex_aload_n ok_X12_stopped (mi 25 rfl) rfl ?_
      refine ex_getRx ok_X12_stopped (mi 26 rfl) rfl rfl (fk (MI_s I) 0 rfl) (fr (MI_s I) 27 rfl) (fk (MI_s I) 28 rfl) (by decide) ?_
      refine ex_iload_n ok_X12_stopped (mi 27 rfl) rfl ?_
      refine sm_iald ok_X12_stopped (mi 28 rfl) (fk (MI_s I) 28 rfl) (fn (MI_s I) 28 rfl) rfl (by omega) (by decide) ?_
      refine ex_gen (fun w5 => ?_)
      refine ex_icmp_eq (tgt := 47) ok_X12_stopped (mi 29 rfl) rfl (fun h43 => ?_) (fun h43 => ?_)
      · skip
        refine ex_aload_n ok_X12_stopped (mi 31 rfl) rfl ?_
        refine ex_getRx ok_X12_stopped (mi 32 rfl) rfl rfl (fk (MI_s I) 0 rfl) (fr (MI_s I) 28 rfl) (fk (MI_s I) 29 rfl) (by decide) ?_
        refine ex_iload_n ok_X12_stopped (mi 33 rfl) rfl ?_
        refine ex_dup2 ok_X12_stopped (mi 34 rfl) rfl rfl ?_
        refine sm_iald ok_X12_stopped (mi 35 rfl) (fk (MI_s I) 29 rfl) (fn (MI_s I) 29 rfl) rfl (by omega) (by decide) ?_
        refine ex_gen (fun w6 => ?_)
        refine ex_iconst ok_X12_stopped (mi 36 rfl) ?_
        refine ex_aload_n ok_X12_stopped (mi 37 rfl) rfl ?_
        refine ex_getRx ok_X12_stopped (mi 38 rfl) rfl rfl (fk (MI_s I) 0 rfl) (fr (MI_s I) 50 rfl) (fk (MI_s I) 51 rfl) (by decide) ?_
        refine ex_iload_n ok_X12_stopped (mi 39 rfl) rfl ?_
        refine sm_iald ok_X12_stopped (mi 40 rfl) (fk (MI_s I) 51 rfl) (fn (MI_s I) 51 rfl) rfl (by omega) (by decide) ?_
        refine ex_gen (fun w7 => ?_)
        refine ex_ishl ok_X12_stopped (mi 41 rfl) ?_
        refine ex_gen (fun w8 => ?_)
        refine ex_ior ok_X12_stopped (mi 42 rfl) ?_
        refine ex_gen (fun w9 => ?_)
        refine mf_A I ok_X12_stopped (mi 43 rfl) (fk (MI_s I) 29 rfl) (fn (MI_s I) 29 rfl) rfl (by omega) (by decide) (by decide) (by decide) (by decide) (fun g10 J11 K12 => ?_)
        have mk13 := KK_mk K12 hmk
        refine ex_aload_n ok_X12_stopped (mi 44 rfl) rfl ?_
        refine ex_getRx ok_X12_stopped (mi 45 rfl) rfl rfl (fk (MI_s J11) 0 rfl) (fr (MI_s J11) 29 rfl) (fk (MI_s J11) 30 rfl) (by decide) ?_
        refine ex_iload_n ok_X12_stopped (mi 46 rfl) rfl ?_
        refine ex_aload_n ok_X12_stopped (mi 47 rfl) rfl ?_
        refine ex_getRx ok_X12_stopped (mi 48 rfl) rfl rfl (fk (MI_s J11) 0 rfl) (fr (MI_s J11) 52 rfl) (fk (MI_s J11) 53 rfl) (by decide) ?_
        refine ex_iconst ok_X12_stopped (mi 49 rfl) ?_
        refine ex_iload_n ok_X12_stopped (mi 50 rfl) rfl ?_
        refine ex_imul ok_X12_stopped (mi 51 rfl) ?_
        refine ex_top (w := (nI (3 * a1))) (nI_mulc rfl) ?_
        refine ex_iconst ok_X12_stopped (mi 52 rfl) ?_
        refine ex_iadd ok_X12_stopped (mi 53 rfl) ?_
        refine ex_top (w := (nI (3 * a1 + 2))) (nI_add _ 2) ?_
        refine sm_iald ok_X12_stopped (mi 54 rfl) (fk (MI_s J11) 53 rfl) (fn (MI_s J11) 53 rfl) rfl (by omega) (by decide) ?_
        obtain ⟨v14, hv14, ev14⟩ := vp_in_of (n := 300) (vb_in mk13.2.2.2.2.2.1 (by decide)) (by decide)
        refine ex_top (w := nI v14) ev14 ?_
        refine ex_aload_n ok_X12_stopped (mi 55 rfl) rfl ?_
        refine ex_getRx ok_X12_stopped (mi 56 rfl) rfl rfl (fk (MI_s J11) 0 rfl) (fr (MI_s J11) 29 rfl) (fk (MI_s J11) 30 rfl) (by decide) ?_
        refine ex_iload_n ok_X12_stopped (mi 57 rfl) rfl ?_
        refine sm_iald ok_X12_stopped (mi 58 rfl) (fk (MI_s J11) 30 rfl) (fn (MI_s J11) 30 rfl) rfl (by omega) (by decide) ?_
        obtain ⟨v15, hv15, ev15⟩ := vp_in_of (n := 300) (MI_bd J11 7 rfl (i := a0) (by omega)) (by decide)
        refine ex_top (w := nI v15) ev15 ?_
        refine ex_icmp_le (tgt := 101) ok_X12_stopped (mi 59 rfl) rfl (fun h85 => ?_) (fun h85 => ?_)
        · skip
          refine ex_aload_n ok_X12_stopped (mi 69 rfl) rfl ?_
          refine ex_getRx ok_X12_stopped (mi 70 rfl) rfl rfl (fk (MI_s J11) 0 rfl) (fr (MI_s J11) 29 rfl) (fk (MI_s J11) 30 rfl) (by decide) ?_
          refine ex_iload_n ok_X12_stopped (mi 71 rfl) rfl ?_
          refine sm_iald ok_X12_stopped (mi 72 rfl) (fk (MI_s J11) 30 rfl) (fn (MI_s J11) 30 rfl) rfl (by omega) (by decide) ?_
          refine ex_top (w := nI v15) ev15 ?_
          refine mf_B J11 ok_X12_stopped (mi 73 rfl) (fk (MI_s J11) 30 rfl) (fn (MI_s J11) 30 rfl) rfl (by omega) (by decide) (B := 300) (by decide) (by decide) (by decide) (vp_in_nI (N := 300) (by omega) (by decide)) (fun g16 J17 K18 => ?_)
          have mk19 := KK_mk K18 mk13
          refine ex_iconst ok_X12_stopped (mi 74 rfl) ?_
          refine ex_istore_n ok_X12_stopped (mi 75 rfl) ?_
          have lp110 : ∀ n110 k110 : Nat, k110 + n110 = 300 → ∀ (g20 : GT), MI y D c R g20 → MK y g20 a1 17 m → ex_W G 4 0 0 M_X12_stopped 110 [(0, .ref y), (1, .int (nI (a0))), (2, .int (nI (a1))), (3, .int (nI (k110)))] [] g20 (SM y D c R pN) := by
            intro n110
            induction n110 with
            | zero =>
              intro k110 he110  g20 J21 mk110_0
              obtain rfl : k110 = 300 := by omega
              refine ex_iload_n ok_X12_stopped (mi 76 rfl) rfl ?_
              refine ex_aload_n ok_X12_stopped (mi 77 rfl) rfl ?_
              refine ex_getRx ok_X12_stopped (mi 78 rfl) rfl rfl (fk (MI_s J21) 0 rfl) (fr (MI_s J21) 53 rfl) (fk (MI_s J21) 54 rfl) (by decide) ?_
              refine ex_iload_n ok_X12_stopped (mi 79 rfl) rfl ?_
              refine sm_iald ok_X12_stopped (mi 80 rfl) (fk (MI_s J21) 54 rfl) (fn (MI_s J21) 54 rfl) rfl (by omega) (by decide) ?_
              refine ex_top (w := nI m) mk110_0.2.2.2.2.2.2.2.2.1 ?_
              refine ex_icmp_ge (tgt := 149) ok_X12_stopped (mi 81 rfl) rfl (fun _ => ?_) (fun hn => absurd (nI_le (b := 300) (a := m) (by omega) (by omega)) hn)
              refine ex_aload_n ok_X12_stopped (mi 99 rfl) rfl ?_
              refine ex_getRx ok_X12_stopped (mi 100 rfl) rfl rfl (fk (MI_s J21) 0 rfl) (fr (MI_s J21) 54 rfl) (fk (MI_s J21) 55 rfl) (by decide) ?_
              refine ex_iconst ok_X12_stopped (mi 101 rfl) ?_
              refine ex_iload_n ok_X12_stopped (mi 102 rfl) rfl ?_
              refine ex_imul ok_X12_stopped (mi 103 rfl) ?_
              refine ex_top (w := (nI (2 * a1))) (nI_mulc rfl) ?_
              refine sm_iald ok_X12_stopped (mi 104 rfl) (fk (MI_s J21) 55 rfl) (fn (MI_s J21) 55 rfl) rfl (by omega) (by decide) ?_
              refine ex_gen (fun w22 => ?_)
              refine ex_aload_n ok_X12_stopped (mi 105 rfl) rfl ?_
              refine ex_getRx ok_X12_stopped (mi 106 rfl) rfl rfl (fk (MI_s J21) 0 rfl) (fr (MI_s J21) 31 rfl) (fk (MI_s J21) 32 rfl) (by decide) ?_
              refine ex_iload_n ok_X12_stopped (mi 107 rfl) rfl ?_
              refine sm_iald ok_X12_stopped (mi 108 rfl) (fk (MI_s J21) 32 rfl) (fn (MI_s J21) 32 rfl) rfl (by omega) (by decide) ?_
              refine ex_gen (fun w23 => ?_)
              refine ex_icmp_le (tgt := 196) ok_X12_stopped (mi 109 rfl) rfl (fun h163 => ?_) (fun h163 => ?_)
              · skip
                refine ex_aload_n ok_X12_stopped (mi 132 rfl) rfl ?_
                refine ex_getRx ok_X12_stopped (mi 133 rfl) rfl rfl (fk (MI_s J21) 0 rfl) (fr (MI_s J21) 28 rfl) (fk (MI_s J21) 29 rfl) (by decide) ?_
                refine ex_iload_n ok_X12_stopped (mi 134 rfl) rfl ?_
                refine sm_iald ok_X12_stopped (mi 135 rfl) (fk (MI_s J21) 29 rfl) (fn (MI_s J21) 29 rfl) rfl (by omega) (by decide) ?_
                refine ex_gen (fun w24 => ?_)
                refine sf_Sp (As := [_]) ok_X12_stopped (mi 136 rfl) rfl (s_X12_bits hst (MI_s J21)) rfl rfl rfl (by decide) (Nat.le_of_ble_eq_true rfl) (by decide) (fun z25 p26 => ?_)
                obtain ⟨v29, rfl⟩ := p26
                refine ex_iconst ok_X12_stopped (mi 137 rfl) ?_
                refine ex_icmp_ge (tgt := 210) ok_X12_stopped (mi 138 rfl) rfl (fun h206 => ?_) (fun h206 => ?_)
                · skip
                  refine ex_aload_n ok_X12_stopped (mi 140 rfl) rfl ?_
                  refine ex_getRx ok_X12_stopped (mi 141 rfl) rfl rfl (fk (MI_s J21) 0 rfl) (fr (MI_s J21) 28 rfl) (fk (MI_s J21) 29 rfl) (by decide) ?_
                  refine ex_iload_n ok_X12_stopped (mi 142 rfl) rfl ?_
                  refine ex_iconst ok_X12_stopped (mi 143 rfl) ?_
                  refine mf_A J21 ok_X12_stopped (mi 144 rfl) (fk (MI_s J21) 29 rfl) (fn (MI_s J21) 29 rfl) rfl (by omega) (by decide) (by decide) (by decide) (by decide) (fun g30 J31 K32 => ?_)
                  have mk33 := KK_mk K32 mk110_0
                  refine ex_aload_n ok_X12_stopped (mi 145 rfl) rfl ?_
                  refine ex_getRx ok_X12_stopped (mi 146 rfl) rfl rfl (fk (MI_s J31) 0 rfl) (fr (MI_s J31) 31 rfl) (fk (MI_s J31) 32 rfl) (by decide) ?_
                  refine ex_iload_n ok_X12_stopped (mi 147 rfl) rfl ?_
                  refine sm_iald ok_X12_stopped (mi 148 rfl) (fk (MI_s J31) 32 rfl) (fn (MI_s J31) 32 rfl) rfl (by omega) (by decide) ?_
                  refine ex_gen (fun w34 => ?_)
                  refine ex_iconst ok_X12_stopped (mi 149 rfl) ?_
                  refine ex_icmp_eq (tgt := 247) ok_X12_stopped (mi 150 rfl) rfl (fun h224 => ?_) (fun h224 => ?_)
                  · skip
                    refine ex_aload_n ok_X12_stopped (mi 163 rfl) rfl ?_
                    refine ex_getRx ok_X12_stopped (mi 164 rfl) rfl rfl (fk (MI_s J31) 0 rfl) (fr (MI_s J31) 25 rfl) (fk (MI_s J31) 26 rfl) (by decide) ?_
                    refine ex_iload_n ok_X12_stopped (mi 165 rfl) rfl ?_
                    refine ex_iconst ok_X12_stopped (mi 166 rfl) ?_
                    refine mf_A J31 ok_X12_stopped (mi 167 rfl) (fk (MI_s J31) 26 rfl) (fn (MI_s J31) 26 rfl) rfl (by omega) (by decide) (by decide) (by decide) (by decide) (fun g35 J36 K37 => ?_)
                    have mk38 := KK_mk K37 mk33
                    refine ex_aload_n ok_X12_stopped (mi 168 rfl) rfl ?_
                    refine ex_iload_n ok_X12_stopped (mi 169 rfl) rfl ?_
                    refine ex_aload_n ok_X12_stopped (mi 170 rfl) rfl ?_
                    refine ex_getRx ok_X12_stopped (mi 171 rfl) rfl rfl (fk (MI_s J36) 0 rfl) (fr (MI_s J36) 26 rfl) (fk (MI_s J36) 27 rfl) (by decide) ?_
                    refine ex_iload_n ok_X12_stopped (mi 172 rfl) rfl ?_
                    refine sm_iald ok_X12_stopped (mi 173 rfl) (fk (MI_s J36) 27 rfl) (fn (MI_s J36) 27 rfl) rfl (by omega) (by decide) ?_
                    obtain ⟨v39, hv39, ev39⟩ := vp_in_of (n := 512) (MI_bd J36 6 rfl (i := a0) (by omega)) (by decide)
                    refine ex_top (w := nI v39) ev39 ?_
                    refine sm_V (As := [_, _]) ok_X12_stopped (mi 174 rfl) rfl (s_X12_seed hst J36 (by omega)) rfl (fk (MI_s J36) 0 rfl) rfl rfl (by decide) (by decide) (Nat.le_of_ble_eq_true rfl) (by decide) SM_no (fun z40 g42 p41 => ?_)
                    obtain ⟨u44, eu44, u44p, J43⟩ := p41
                    cases eu44
                    obtain ⟨v45, rfl⟩ := u44p
                    refine ex_istore_n ok_X12_stopped (mi 175 rfl) ?_
                    refine ex_vret ok_X12_stopped (mi 176 rfl) rfl ?_
                    exact ⟨_, rfl, rfl, J43⟩
                  · skip
                    refine ex_aload_n ok_X12_stopped (mi 151 rfl) rfl ?_
                    refine ex_getRx ok_X12_stopped (mi 152 rfl) rfl rfl (fk (MI_s J31) 0 rfl) (fr (MI_s J31) 26 rfl) (fk (MI_s J31) 27 rfl) (by decide) ?_
                    refine ex_iload_n ok_X12_stopped (mi 153 rfl) rfl ?_
                    refine ex_aload_n ok_X12_stopped (mi 154 rfl) rfl ?_
                    refine ex_getRx ok_X12_stopped (mi 155 rfl) rfl rfl (fk (MI_s J31) 0 rfl) (fr (MI_s J31) 32 rfl) (fk (MI_s J31) 33 rfl) (by decide) ?_
                    refine ex_iload_n ok_X12_stopped (mi 156 rfl) rfl ?_
                    refine sm_iald ok_X12_stopped (mi 157 rfl) (fk (MI_s J31) 33 rfl) (fn (MI_s J31) 33 rfl) rfl (by omega) (by decide) ?_
                    obtain ⟨v46, hv46, ev46⟩ := vp_in_of (n := 512) (MI_bd J31 8 rfl (i := a0) (by omega)) (by decide)
                    refine ex_top (w := nI v46) ev46 ?_
                    refine mf_B J31 ok_X12_stopped (mi 158 rfl) (fk (MI_s J31) 27 rfl) (fn (MI_s J31) 27 rfl) rfl (by omega) (by decide) (B := 512) (by decide) (by decide) (by decide) (vp_in_nI (N := 512) (by omega) (by decide)) (fun g47 J48 K49 => ?_)
                    have mk50 := KK_mk K49 mk33
                    refine ex_aload_n ok_X12_stopped (mi 159 rfl) rfl ?_
                    refine ex_iload_n ok_X12_stopped (mi 160 rfl) rfl ?_
                    refine sm_V (As := [_]) ok_X12_stopped (mi 161 rfl) rfl (s_X12_pick hst J48 (by omega)) rfl (fk (MI_s J48) 0 rfl) rfl rfl (by decide) (by decide) (Nat.le_of_ble_eq_true rfl) (by decide) SM_no (fun z51 g53 p52 => ?_)
                    obtain ⟨u55, eu55, u55p, J54⟩ := p52
                    cases eu55
                    obtain rfl : z51 = none := u55p
                    refine ex_goto (tgt := 266) ok_X12_stopped (mi 162 rfl) rfl ?_
                    refine ex_vret ok_X12_stopped (mi 176 rfl) rfl ?_
                    exact ⟨_, rfl, rfl, J54⟩
                · skip
                  refine ex_vret ok_X12_stopped (mi 139 rfl) rfl ?_
                  exact ⟨_, rfl, rfl, J21⟩
              · skip
                refine ex_aload_n ok_X12_stopped (mi 110 rfl) rfl ?_
                refine ex_getRx ok_X12_stopped (mi 111 rfl) rfl rfl (fk (MI_s J21) 0 rfl) (fr (MI_s J21) 31 rfl) (fk (MI_s J21) 32 rfl) (by decide) ?_
                refine ex_iload_n ok_X12_stopped (mi 112 rfl) rfl ?_
                refine ex_aload_n ok_X12_stopped (mi 113 rfl) rfl ?_
                refine ex_getRx ok_X12_stopped (mi 114 rfl) rfl rfl (fk (MI_s J21) 0 rfl) (fr (MI_s J21) 54 rfl) (fk (MI_s J21) 55 rfl) (by decide) ?_
                refine ex_iconst ok_X12_stopped (mi 115 rfl) ?_
                refine ex_iload_n ok_X12_stopped (mi 116 rfl) rfl ?_
                refine ex_imul ok_X12_stopped (mi 117 rfl) ?_
                refine ex_top (w := (nI (2 * a1))) (nI_mulc rfl) ?_
                refine sm_iald ok_X12_stopped (mi 118 rfl) (fk (MI_s J21) 55 rfl) (fn (MI_s J21) 55 rfl) rfl (by omega) (by decide) ?_
                refine ex_gen (fun w56 => ?_)
                refine mf_A J21 ok_X12_stopped (mi 119 rfl) (fk (MI_s J21) 32 rfl) (fn (MI_s J21) 32 rfl) rfl (by omega) (by decide) (by decide) (by decide) (by decide) (fun g57 J58 K59 => ?_)
                have mk60 := KK_mk K59 mk110_0
                refine ex_aload_n ok_X12_stopped (mi 120 rfl) rfl ?_
                refine ex_getRx ok_X12_stopped (mi 121 rfl) rfl rfl (fk (MI_s J58) 0 rfl) (fr (MI_s J58) 32 rfl) (fk (MI_s J58) 33 rfl) (by decide) ?_
                refine ex_iload_n ok_X12_stopped (mi 122 rfl) rfl ?_
                refine ex_aload_n ok_X12_stopped (mi 123 rfl) rfl ?_
                refine ex_getRx ok_X12_stopped (mi 124 rfl) rfl rfl (fk (MI_s J58) 0 rfl) (fr (MI_s J58) 54 rfl) (fk (MI_s J58) 55 rfl) (by decide) ?_
                refine ex_iconst ok_X12_stopped (mi 125 rfl) ?_
                refine ex_iload_n ok_X12_stopped (mi 126 rfl) rfl ?_
                refine ex_imul ok_X12_stopped (mi 127 rfl) ?_
                refine ex_top (w := (nI (2 * a1))) (nI_mulc rfl) ?_
                refine ex_iconst ok_X12_stopped (mi 128 rfl) ?_
                refine ex_iadd ok_X12_stopped (mi 129 rfl) ?_
                refine ex_top (w := (nI (2 * a1 + 1))) (nI_add _ 1) ?_
                refine sm_iald ok_X12_stopped (mi 130 rfl) (fk (MI_s J58) 55 rfl) (fn (MI_s J58) 55 rfl) rfl (by omega) (by decide) ?_
                obtain ⟨v61, hv61, ev61⟩ := vp_in_of (n := 512) (vb_in mk60.2.2.2.2.2.2.1 (by decide)) (by decide)
                refine ex_top (w := nI v61) ev61 ?_
                refine mf_B J58 ok_X12_stopped (mi 131 rfl) (fk (MI_s J58) 33 rfl) (fn (MI_s J58) 33 rfl) rfl (by omega) (by decide) (B := 512) (by decide) (by decide) (by decide) (vp_in_nI (N := 512) (by omega) (by decide)) (fun g62 J63 K64 => ?_)
                have mk65 := KK_mk K64 mk60
                refine ex_aload_n ok_X12_stopped (mi 132 rfl) rfl ?_
                refine ex_getRx ok_X12_stopped (mi 133 rfl) rfl rfl (fk (MI_s J63) 0 rfl) (fr (MI_s J63) 28 rfl) (fk (MI_s J63) 29 rfl) (by decide) ?_
                refine ex_iload_n ok_X12_stopped (mi 134 rfl) rfl ?_
                refine sm_iald ok_X12_stopped (mi 135 rfl) (fk (MI_s J63) 29 rfl) (fn (MI_s J63) 29 rfl) rfl (by omega) (by decide) ?_
                refine ex_gen (fun w66 => ?_)
                refine sf_Sp (As := [_]) ok_X12_stopped (mi 136 rfl) rfl (s_X12_bits hst (MI_s J63)) rfl rfl rfl (by decide) (Nat.le_of_ble_eq_true rfl) (by decide) (fun z67 p68 => ?_)
                obtain ⟨v71, rfl⟩ := p68
                refine ex_iconst ok_X12_stopped (mi 137 rfl) ?_
                refine ex_icmp_ge (tgt := 210) ok_X12_stopped (mi 138 rfl) rfl (fun h206 => ?_) (fun h206 => ?_)
                · skip
                  refine ex_aload_n ok_X12_stopped (mi 140 rfl) rfl ?_
                  refine ex_getRx ok_X12_stopped (mi 141 rfl) rfl rfl (fk (MI_s J63) 0 rfl) (fr (MI_s J63) 28 rfl) (fk (MI_s J63) 29 rfl) (by decide) ?_
                  refine ex_iload_n ok_X12_stopped (mi 142 rfl) rfl ?_
                  refine ex_iconst ok_X12_stopped (mi 143 rfl) ?_
                  refine mf_A J63 ok_X12_stopped (mi 144 rfl) (fk (MI_s J63) 29 rfl) (fn (MI_s J63) 29 rfl) rfl (by omega) (by decide) (by decide) (by decide) (by decide) (fun g72 J73 K74 => ?_)
                  have mk75 := KK_mk K74 mk65
                  refine ex_aload_n ok_X12_stopped (mi 145 rfl) rfl ?_
                  refine ex_getRx ok_X12_stopped (mi 146 rfl) rfl rfl (fk (MI_s J73) 0 rfl) (fr (MI_s J73) 31 rfl) (fk (MI_s J73) 32 rfl) (by decide) ?_
                  refine ex_iload_n ok_X12_stopped (mi 147 rfl) rfl ?_
                  refine sm_iald ok_X12_stopped (mi 148 rfl) (fk (MI_s J73) 32 rfl) (fn (MI_s J73) 32 rfl) rfl (by omega) (by decide) ?_
                  refine ex_gen (fun w76 => ?_)
                  refine ex_iconst ok_X12_stopped (mi 149 rfl) ?_
                  refine ex_icmp_eq (tgt := 247) ok_X12_stopped (mi 150 rfl) rfl (fun h224 => ?_) (fun h224 => ?_)
                  · skip
                    refine ex_aload_n ok_X12_stopped (mi 163 rfl) rfl ?_
                    refine ex_getRx ok_X12_stopped (mi 164 rfl) rfl rfl (fk (MI_s J73) 0 rfl) (fr (MI_s J73) 25 rfl) (fk (MI_s J73) 26 rfl) (by decide) ?_
                    refine ex_iload_n ok_X12_stopped (mi 165 rfl) rfl ?_
                    refine ex_iconst ok_X12_stopped (mi 166 rfl) ?_
                    refine mf_A J73 ok_X12_stopped (mi 167 rfl) (fk (MI_s J73) 26 rfl) (fn (MI_s J73) 26 rfl) rfl (by omega) (by decide) (by decide) (by decide) (by decide) (fun g77 J78 K79 => ?_)
                    have mk80 := KK_mk K79 mk75
                    refine ex_aload_n ok_X12_stopped (mi 168 rfl) rfl ?_
                    refine ex_iload_n ok_X12_stopped (mi 169 rfl) rfl ?_
                    refine ex_aload_n ok_X12_stopped (mi 170 rfl) rfl ?_
                    refine ex_getRx ok_X12_stopped (mi 171 rfl) rfl rfl (fk (MI_s J78) 0 rfl) (fr (MI_s J78) 26 rfl) (fk (MI_s J78) 27 rfl) (by decide) ?_
                    refine ex_iload_n ok_X12_stopped (mi 172 rfl) rfl ?_
                    refine sm_iald ok_X12_stopped (mi 173 rfl) (fk (MI_s J78) 27 rfl) (fn (MI_s J78) 27 rfl) rfl (by omega) (by decide) ?_
                    obtain ⟨v81, hv81, ev81⟩ := vp_in_of (n := 512) (MI_bd J78 6 rfl (i := a0) (by omega)) (by decide)
                    refine ex_top (w := nI v81) ev81 ?_
                    refine sm_V (As := [_, _]) ok_X12_stopped (mi 174 rfl) rfl (s_X12_seed hst J78 (by omega)) rfl (fk (MI_s J78) 0 rfl) rfl rfl (by decide) (by decide) (Nat.le_of_ble_eq_true rfl) (by decide) SM_no (fun z82 g84 p83 => ?_)
                    obtain ⟨u86, eu86, u86p, J85⟩ := p83
                    cases eu86
                    obtain ⟨v87, rfl⟩ := u86p
                    refine ex_istore_n ok_X12_stopped (mi 175 rfl) ?_
                    refine ex_vret ok_X12_stopped (mi 176 rfl) rfl ?_
                    exact ⟨_, rfl, rfl, J85⟩
                  · skip
                    refine ex_aload_n ok_X12_stopped (mi 151 rfl) rfl ?_
                    refine ex_getRx ok_X12_stopped (mi 152 rfl) rfl rfl (fk (MI_s J73) 0 rfl) (fr (MI_s J73) 26 rfl) (fk (MI_s J73) 27 rfl) (by decide) ?_
                    refine ex_iload_n ok_X12_stopped (mi 153 rfl) rfl ?_
                    refine ex_aload_n ok_X12_stopped (mi 154 rfl) rfl ?_
                    refine ex_getRx ok_X12_stopped (mi 155 rfl) rfl rfl (fk (MI_s J73) 0 rfl) (fr (MI_s J73) 32 rfl) (fk (MI_s J73) 33 rfl) (by decide) ?_
                    refine ex_iload_n ok_X12_stopped (mi 156 rfl) rfl ?_
                    refine sm_iald ok_X12_stopped (mi 157 rfl) (fk (MI_s J73) 33 rfl) (fn (MI_s J73) 33 rfl) rfl (by omega) (by decide) ?_
                    obtain ⟨v88, hv88, ev88⟩ := vp_in_of (n := 512) (MI_bd J73 8 rfl (i := a0) (by omega)) (by decide)
                    refine ex_top (w := nI v88) ev88 ?_
                    refine mf_B J73 ok_X12_stopped (mi 158 rfl) (fk (MI_s J73) 27 rfl) (fn (MI_s J73) 27 rfl) rfl (by omega) (by decide) (B := 512) (by decide) (by decide) (by decide) (vp_in_nI (N := 512) (by omega) (by decide)) (fun g89 J90 K91 => ?_)
                    have mk92 := KK_mk K91 mk75
                    refine ex_aload_n ok_X12_stopped (mi 159 rfl) rfl ?_
                    refine ex_iload_n ok_X12_stopped (mi 160 rfl) rfl ?_
                    refine sm_V (As := [_]) ok_X12_stopped (mi 161 rfl) rfl (s_X12_pick hst J90 (by omega)) rfl (fk (MI_s J90) 0 rfl) rfl rfl (by decide) (by decide) (Nat.le_of_ble_eq_true rfl) (by decide) SM_no (fun z93 g95 p94 => ?_)
                    obtain ⟨u97, eu97, u97p, J96⟩ := p94
                    cases eu97
                    obtain rfl : z93 = none := u97p
                    refine ex_goto (tgt := 266) ok_X12_stopped (mi 162 rfl) rfl ?_
                    refine ex_vret ok_X12_stopped (mi 176 rfl) rfl ?_
                    exact ⟨_, rfl, rfl, J96⟩
                · skip
                  refine ex_vret ok_X12_stopped (mi 139 rfl) rfl ?_
                  exact ⟨_, rfl, rfl, J63⟩
            | succ n110 ih110 =>
              intro k110 he110  g20 J21 mk110_0
              have hr110 : k110 < 300 := by omega
              refine ex_iload_n ok_X12_stopped (mi 76 rfl) rfl ?_
              refine ex_aload_n ok_X12_stopped (mi 77 rfl) rfl ?_
              refine ex_getRx ok_X12_stopped (mi 78 rfl) rfl rfl (fk (MI_s J21) 0 rfl) (fr (MI_s J21) 53 rfl) (fk (MI_s J21) 54 rfl) (by decide) ?_
              refine ex_iload_n ok_X12_stopped (mi 79 rfl) rfl ?_
              refine sm_iald ok_X12_stopped (mi 80 rfl) (fk (MI_s J21) 54 rfl) (fn (MI_s J21) 54 rfl) rfl (by omega) (by decide) ?_
              refine ex_top (w := nI m) mk110_0.2.2.2.2.2.2.2.2.1 ?_
              refine ex_icmp_ge (tgt := 149) ok_X12_stopped (mi 81 rfl) rfl (fun h117 => ?_) (fun h117 => ?_)
              · skip
                refine ex_aload_n ok_X12_stopped (mi 99 rfl) rfl ?_
                refine ex_getRx ok_X12_stopped (mi 100 rfl) rfl rfl (fk (MI_s J21) 0 rfl) (fr (MI_s J21) 54 rfl) (fk (MI_s J21) 55 rfl) (by decide) ?_
                refine ex_iconst ok_X12_stopped (mi 101 rfl) ?_
                refine ex_iload_n ok_X12_stopped (mi 102 rfl) rfl ?_
                refine ex_imul ok_X12_stopped (mi 103 rfl) ?_
                refine ex_top (w := (nI (2 * a1))) (nI_mulc rfl) ?_
                refine sm_iald ok_X12_stopped (mi 104 rfl) (fk (MI_s J21) 55 rfl) (fn (MI_s J21) 55 rfl) rfl (by omega) (by decide) ?_
                refine ex_gen (fun w98 => ?_)
                refine ex_aload_n ok_X12_stopped (mi 105 rfl) rfl ?_
                refine ex_getRx ok_X12_stopped (mi 106 rfl) rfl rfl (fk (MI_s J21) 0 rfl) (fr (MI_s J21) 31 rfl) (fk (MI_s J21) 32 rfl) (by decide) ?_
                refine ex_iload_n ok_X12_stopped (mi 107 rfl) rfl ?_
                refine sm_iald ok_X12_stopped (mi 108 rfl) (fk (MI_s J21) 32 rfl) (fn (MI_s J21) 32 rfl) rfl (by omega) (by decide) ?_
                refine ex_gen (fun w99 => ?_)
                refine ex_icmp_le (tgt := 196) ok_X12_stopped (mi 109 rfl) rfl (fun h163 => ?_) (fun h163 => ?_)
                · skip
                  refine ex_aload_n ok_X12_stopped (mi 132 rfl) rfl ?_
                  refine ex_getRx ok_X12_stopped (mi 133 rfl) rfl rfl (fk (MI_s J21) 0 rfl) (fr (MI_s J21) 28 rfl) (fk (MI_s J21) 29 rfl) (by decide) ?_
                  refine ex_iload_n ok_X12_stopped (mi 134 rfl) rfl ?_
                  refine sm_iald ok_X12_stopped (mi 135 rfl) (fk (MI_s J21) 29 rfl) (fn (MI_s J21) 29 rfl) rfl (by omega) (by decide) ?_
                  refine ex_gen (fun w100 => ?_)
                  refine sf_Sp (As := [_]) ok_X12_stopped (mi 136 rfl) rfl (s_X12_bits hst (MI_s J21)) rfl rfl rfl (by decide) (Nat.le_of_ble_eq_true rfl) (by decide) (fun z101 p102 => ?_)
                  obtain ⟨v105, rfl⟩ := p102
                  refine ex_iconst ok_X12_stopped (mi 137 rfl) ?_
                  refine ex_icmp_ge (tgt := 210) ok_X12_stopped (mi 138 rfl) rfl (fun h206 => ?_) (fun h206 => ?_)
                  · skip
                    refine ex_aload_n ok_X12_stopped (mi 140 rfl) rfl ?_
                    refine ex_getRx ok_X12_stopped (mi 141 rfl) rfl rfl (fk (MI_s J21) 0 rfl) (fr (MI_s J21) 28 rfl) (fk (MI_s J21) 29 rfl) (by decide) ?_
                    refine ex_iload_n ok_X12_stopped (mi 142 rfl) rfl ?_
                    refine ex_iconst ok_X12_stopped (mi 143 rfl) ?_
                    refine mf_A J21 ok_X12_stopped (mi 144 rfl) (fk (MI_s J21) 29 rfl) (fn (MI_s J21) 29 rfl) rfl (by omega) (by decide) (by decide) (by decide) (by decide) (fun g106 J107 K108 => ?_)
                    have mk109 := KK_mk K108 mk110_0
                    refine ex_aload_n ok_X12_stopped (mi 145 rfl) rfl ?_
                    refine ex_getRx ok_X12_stopped (mi 146 rfl) rfl rfl (fk (MI_s J107) 0 rfl) (fr (MI_s J107) 31 rfl) (fk (MI_s J107) 32 rfl) (by decide) ?_
                    refine ex_iload_n ok_X12_stopped (mi 147 rfl) rfl ?_
                    refine sm_iald ok_X12_stopped (mi 148 rfl) (fk (MI_s J107) 32 rfl) (fn (MI_s J107) 32 rfl) rfl (by omega) (by decide) ?_
                    refine ex_gen (fun w110 => ?_)
                    refine ex_iconst ok_X12_stopped (mi 149 rfl) ?_
                    refine ex_icmp_eq (tgt := 247) ok_X12_stopped (mi 150 rfl) rfl (fun h224 => ?_) (fun h224 => ?_)
                    · skip
                      refine ex_aload_n ok_X12_stopped (mi 163 rfl) rfl ?_
                      refine ex_getRx ok_X12_stopped (mi 164 rfl) rfl rfl (fk (MI_s J107) 0 rfl) (fr (MI_s J107) 25 rfl) (fk (MI_s J107) 26 rfl) (by decide) ?_
                      refine ex_iload_n ok_X12_stopped (mi 165 rfl) rfl ?_
                      refine ex_iconst ok_X12_stopped (mi 166 rfl) ?_
                      refine mf_A J107 ok_X12_stopped (mi 167 rfl) (fk (MI_s J107) 26 rfl) (fn (MI_s J107) 26 rfl) rfl (by omega) (by decide) (by decide) (by decide) (by decide) (fun g111 J112 K113 => ?_)
                      have mk114 := KK_mk K113 mk109
                      refine ex_aload_n ok_X12_stopped (mi 168 rfl) rfl ?_
                      refine ex_iload_n ok_X12_stopped (mi 169 rfl) rfl ?_
                      refine ex_aload_n ok_X12_stopped (mi 170 rfl) rfl ?_
                      refine ex_getRx ok_X12_stopped (mi 171 rfl) rfl rfl (fk (MI_s J112) 0 rfl) (fr (MI_s J112) 26 rfl) (fk (MI_s J112) 27 rfl) (by decide) ?_
                      refine ex_iload_n ok_X12_stopped (mi 172 rfl) rfl ?_
                      refine sm_iald ok_X12_stopped (mi 173 rfl) (fk (MI_s J112) 27 rfl) (fn (MI_s J112) 27 rfl) rfl (by omega) (by decide) ?_
                      obtain ⟨v115, hv115, ev115⟩ := vp_in_of (n := 512) (MI_bd J112 6 rfl (i := a0) (by omega)) (by decide)
                      refine ex_top (w := nI v115) ev115 ?_
                      refine sm_V (As := [_, _]) ok_X12_stopped (mi 174 rfl) rfl (s_X12_seed hst J112 (by omega)) rfl (fk (MI_s J112) 0 rfl) rfl rfl (by decide) (by decide) (Nat.le_of_ble_eq_true rfl) (by decide) SM_no (fun z116 g118 p117 => ?_)
                      obtain ⟨u120, eu120, u120p, J119⟩ := p117
                      cases eu120
                      obtain ⟨v121, rfl⟩ := u120p
                      refine ex_istore_n ok_X12_stopped (mi 175 rfl) ?_
                      refine ex_vret ok_X12_stopped (mi 176 rfl) rfl ?_
                      exact ⟨_, rfl, rfl, J119⟩
                    · skip
                      refine ex_aload_n ok_X12_stopped (mi 151 rfl) rfl ?_
                      refine ex_getRx ok_X12_stopped (mi 152 rfl) rfl rfl (fk (MI_s J107) 0 rfl) (fr (MI_s J107) 26 rfl) (fk (MI_s J107) 27 rfl) (by decide) ?_
                      refine ex_iload_n ok_X12_stopped (mi 153 rfl) rfl ?_
                      refine ex_aload_n ok_X12_stopped (mi 154 rfl) rfl ?_
                      refine ex_getRx ok_X12_stopped (mi 155 rfl) rfl rfl (fk (MI_s J107) 0 rfl) (fr (MI_s J107) 32 rfl) (fk (MI_s J107) 33 rfl) (by decide) ?_
                      refine ex_iload_n ok_X12_stopped (mi 156 rfl) rfl ?_
                      refine sm_iald ok_X12_stopped (mi 157 rfl) (fk (MI_s J107) 33 rfl) (fn (MI_s J107) 33 rfl) rfl (by omega) (by decide) ?_
                      obtain ⟨v122, hv122, ev122⟩ := vp_in_of (n := 512) (MI_bd J107 8 rfl (i := a0) (by omega)) (by decide)
                      refine ex_top (w := nI v122) ev122 ?_
                      refine mf_B J107 ok_X12_stopped (mi 158 rfl) (fk (MI_s J107) 27 rfl) (fn (MI_s J107) 27 rfl) rfl (by omega) (by decide) (B := 512) (by decide) (by decide) (by decide) (vp_in_nI (N := 512) (by omega) (by decide)) (fun g123 J124 K125 => ?_)
                      have mk126 := KK_mk K125 mk109
                      refine ex_aload_n ok_X12_stopped (mi 159 rfl) rfl ?_
                      refine ex_iload_n ok_X12_stopped (mi 160 rfl) rfl ?_
                      refine sm_V (As := [_]) ok_X12_stopped (mi 161 rfl) rfl (s_X12_pick hst J124 (by omega)) rfl (fk (MI_s J124) 0 rfl) rfl rfl (by decide) (by decide) (Nat.le_of_ble_eq_true rfl) (by decide) SM_no (fun z127 g129 p128 => ?_)
                      obtain ⟨u131, eu131, u131p, J130⟩ := p128
                      cases eu131
                      obtain rfl : z127 = none := u131p
                      refine ex_goto (tgt := 266) ok_X12_stopped (mi 162 rfl) rfl ?_
                      refine ex_vret ok_X12_stopped (mi 176 rfl) rfl ?_
                      exact ⟨_, rfl, rfl, J130⟩
                  · skip
                    refine ex_vret ok_X12_stopped (mi 139 rfl) rfl ?_
                    exact ⟨_, rfl, rfl, J21⟩
                · skip
                  refine ex_aload_n ok_X12_stopped (mi 110 rfl) rfl ?_
                  refine ex_getRx ok_X12_stopped (mi 111 rfl) rfl rfl (fk (MI_s J21) 0 rfl) (fr (MI_s J21) 31 rfl) (fk (MI_s J21) 32 rfl) (by decide) ?_
                  refine ex_iload_n ok_X12_stopped (mi 112 rfl) rfl ?_
                  refine ex_aload_n ok_X12_stopped (mi 113 rfl) rfl ?_
                  refine ex_getRx ok_X12_stopped (mi 114 rfl) rfl rfl (fk (MI_s J21) 0 rfl) (fr (MI_s J21) 54 rfl) (fk (MI_s J21) 55 rfl) (by decide) ?_
                  refine ex_iconst ok_X12_stopped (mi 115 rfl) ?_
                  refine ex_iload_n ok_X12_stopped (mi 116 rfl) rfl ?_
                  refine ex_imul ok_X12_stopped (mi 117 rfl) ?_
                  refine ex_top (w := (nI (2 * a1))) (nI_mulc rfl) ?_
                  refine sm_iald ok_X12_stopped (mi 118 rfl) (fk (MI_s J21) 55 rfl) (fn (MI_s J21) 55 rfl) rfl (by omega) (by decide) ?_
                  refine ex_gen (fun w132 => ?_)
                  refine mf_A J21 ok_X12_stopped (mi 119 rfl) (fk (MI_s J21) 32 rfl) (fn (MI_s J21) 32 rfl) rfl (by omega) (by decide) (by decide) (by decide) (by decide) (fun g133 J134 K135 => ?_)
                  have mk136 := KK_mk K135 mk110_0
                  refine ex_aload_n ok_X12_stopped (mi 120 rfl) rfl ?_
                  refine ex_getRx ok_X12_stopped (mi 121 rfl) rfl rfl (fk (MI_s J134) 0 rfl) (fr (MI_s J134) 32 rfl) (fk (MI_s J134) 33 rfl) (by decide) ?_
                  refine ex_iload_n ok_X12_stopped (mi 122 rfl) rfl ?_
                  refine ex_aload_n ok_X12_stopped (mi 123 rfl) rfl ?_
                  refine ex_getRx ok_X12_stopped (mi 124 rfl) rfl rfl (fk (MI_s J134) 0 rfl) (fr (MI_s J134) 54 rfl) (fk (MI_s J134) 55 rfl) (by decide) ?_
                  refine ex_iconst ok_X12_stopped (mi 125 rfl) ?_
                  refine ex_iload_n ok_X12_stopped (mi 126 rfl) rfl ?_
                  refine ex_imul ok_X12_stopped (mi 127 rfl) ?_
                  refine ex_top (w := (nI (2 * a1))) (nI_mulc rfl) ?_
                  refine ex_iconst ok_X12_stopped (mi 128 rfl) ?_
                  refine ex_iadd ok_X12_stopped (mi 129 rfl) ?_
                  refine ex_top (w := (nI (2 * a1 + 1))) (nI_add _ 1) ?_
                  refine sm_iald ok_X12_stopped (mi 130 rfl) (fk (MI_s J134) 55 rfl) (fn (MI_s J134) 55 rfl) rfl (by omega) (by decide) ?_
                  obtain ⟨v137, hv137, ev137⟩ := vp_in_of (n := 512) (vb_in mk136.2.2.2.2.2.2.1 (by decide)) (by decide)
                  refine ex_top (w := nI v137) ev137 ?_
                  refine mf_B J134 ok_X12_stopped (mi 131 rfl) (fk (MI_s J134) 33 rfl) (fn (MI_s J134) 33 rfl) rfl (by omega) (by decide) (B := 512) (by decide) (by decide) (by decide) (vp_in_nI (N := 512) (by omega) (by decide)) (fun g138 J139 K140 => ?_)
                  have mk141 := KK_mk K140 mk136
                  refine ex_aload_n ok_X12_stopped (mi 132 rfl) rfl ?_
                  refine ex_getRx ok_X12_stopped (mi 133 rfl) rfl rfl (fk (MI_s J139) 0 rfl) (fr (MI_s J139) 28 rfl) (fk (MI_s J139) 29 rfl) (by decide) ?_
                  refine ex_iload_n ok_X12_stopped (mi 134 rfl) rfl ?_
                  refine sm_iald ok_X12_stopped (mi 135 rfl) (fk (MI_s J139) 29 rfl) (fn (MI_s J139) 29 rfl) rfl (by omega) (by decide) ?_
                  refine ex_gen (fun w142 => ?_)
                  refine sf_Sp (As := [_]) ok_X12_stopped (mi 136 rfl) rfl (s_X12_bits hst (MI_s J139)) rfl rfl rfl (by decide) (Nat.le_of_ble_eq_true rfl) (by decide) (fun z143 p144 => ?_)
                  obtain ⟨v147, rfl⟩ := p144
                  refine ex_iconst ok_X12_stopped (mi 137 rfl) ?_
                  refine ex_icmp_ge (tgt := 210) ok_X12_stopped (mi 138 rfl) rfl (fun h206 => ?_) (fun h206 => ?_)
                  · skip
                    refine ex_aload_n ok_X12_stopped (mi 140 rfl) rfl ?_
                    refine ex_getRx ok_X12_stopped (mi 141 rfl) rfl rfl (fk (MI_s J139) 0 rfl) (fr (MI_s J139) 28 rfl) (fk (MI_s J139) 29 rfl) (by decide) ?_
                    refine ex_iload_n ok_X12_stopped (mi 142 rfl) rfl ?_
                    refine ex_iconst ok_X12_stopped (mi 143 rfl) ?_
                    refine mf_A J139 ok_X12_stopped (mi 144 rfl) (fk (MI_s J139) 29 rfl) (fn (MI_s J139) 29 rfl) rfl (by omega) (by decide) (by decide) (by decide) (by decide) (fun g148 J149 K150 => ?_)
                    have mk151 := KK_mk K150 mk141
                    refine ex_aload_n ok_X12_stopped (mi 145 rfl) rfl ?_
                    refine ex_getRx ok_X12_stopped (mi 146 rfl) rfl rfl (fk (MI_s J149) 0 rfl) (fr (MI_s J149) 31 rfl) (fk (MI_s J149) 32 rfl) (by decide) ?_
                    refine ex_iload_n ok_X12_stopped (mi 147 rfl) rfl ?_
                    refine sm_iald ok_X12_stopped (mi 148 rfl) (fk (MI_s J149) 32 rfl) (fn (MI_s J149) 32 rfl) rfl (by omega) (by decide) ?_
                    refine ex_gen (fun w152 => ?_)
                    refine ex_iconst ok_X12_stopped (mi 149 rfl) ?_
                    refine ex_icmp_eq (tgt := 247) ok_X12_stopped (mi 150 rfl) rfl (fun h224 => ?_) (fun h224 => ?_)
                    · skip
                      refine ex_aload_n ok_X12_stopped (mi 163 rfl) rfl ?_
                      refine ex_getRx ok_X12_stopped (mi 164 rfl) rfl rfl (fk (MI_s J149) 0 rfl) (fr (MI_s J149) 25 rfl) (fk (MI_s J149) 26 rfl) (by decide) ?_
                      refine ex_iload_n ok_X12_stopped (mi 165 rfl) rfl ?_
                      refine ex_iconst ok_X12_stopped (mi 166 rfl) ?_
                      refine mf_A J149 ok_X12_stopped (mi 167 rfl) (fk (MI_s J149) 26 rfl) (fn (MI_s J149) 26 rfl) rfl (by omega) (by decide) (by decide) (by decide) (by decide) (fun g153 J154 K155 => ?_)
                      have mk156 := KK_mk K155 mk151
                      refine ex_aload_n ok_X12_stopped (mi 168 rfl) rfl ?_
                      refine ex_iload_n ok_X12_stopped (mi 169 rfl) rfl ?_
                      refine ex_aload_n ok_X12_stopped (mi 170 rfl) rfl ?_
                      refine ex_getRx ok_X12_stopped (mi 171 rfl) rfl rfl (fk (MI_s J154) 0 rfl) (fr (MI_s J154) 26 rfl) (fk (MI_s J154) 27 rfl) (by decide) ?_
                      refine ex_iload_n ok_X12_stopped (mi 172 rfl) rfl ?_
                      refine sm_iald ok_X12_stopped (mi 173 rfl) (fk (MI_s J154) 27 rfl) (fn (MI_s J154) 27 rfl) rfl (by omega) (by decide) ?_
                      obtain ⟨v157, hv157, ev157⟩ := vp_in_of (n := 512) (MI_bd J154 6 rfl (i := a0) (by omega)) (by decide)
                      refine ex_top (w := nI v157) ev157 ?_
                      refine sm_V (As := [_, _]) ok_X12_stopped (mi 174 rfl) rfl (s_X12_seed hst J154 (by omega)) rfl (fk (MI_s J154) 0 rfl) rfl rfl (by decide) (by decide) (Nat.le_of_ble_eq_true rfl) (by decide) SM_no (fun z158 g160 p159 => ?_)
                      obtain ⟨u162, eu162, u162p, J161⟩ := p159
                      cases eu162
                      obtain ⟨v163, rfl⟩ := u162p
                      refine ex_istore_n ok_X12_stopped (mi 175 rfl) ?_
                      refine ex_vret ok_X12_stopped (mi 176 rfl) rfl ?_
                      exact ⟨_, rfl, rfl, J161⟩
                    · skip
                      refine ex_aload_n ok_X12_stopped (mi 151 rfl) rfl ?_
                      refine ex_getRx ok_X12_stopped (mi 152 rfl) rfl rfl (fk (MI_s J149) 0 rfl) (fr (MI_s J149) 26 rfl) (fk (MI_s J149) 27 rfl) (by decide) ?_
                      refine ex_iload_n ok_X12_stopped (mi 153 rfl) rfl ?_
                      refine ex_aload_n ok_X12_stopped (mi 154 rfl) rfl ?_
                      refine ex_getRx ok_X12_stopped (mi 155 rfl) rfl rfl (fk (MI_s J149) 0 rfl) (fr (MI_s J149) 32 rfl) (fk (MI_s J149) 33 rfl) (by decide) ?_
                      refine ex_iload_n ok_X12_stopped (mi 156 rfl) rfl ?_
                      refine sm_iald ok_X12_stopped (mi 157 rfl) (fk (MI_s J149) 33 rfl) (fn (MI_s J149) 33 rfl) rfl (by omega) (by decide) ?_
                      obtain ⟨v164, hv164, ev164⟩ := vp_in_of (n := 512) (MI_bd J149 8 rfl (i := a0) (by omega)) (by decide)
                      refine ex_top (w := nI v164) ev164 ?_
                      refine mf_B J149 ok_X12_stopped (mi 158 rfl) (fk (MI_s J149) 27 rfl) (fn (MI_s J149) 27 rfl) rfl (by omega) (by decide) (B := 512) (by decide) (by decide) (by decide) (vp_in_nI (N := 512) (by omega) (by decide)) (fun g165 J166 K167 => ?_)
                      have mk168 := KK_mk K167 mk151
                      refine ex_aload_n ok_X12_stopped (mi 159 rfl) rfl ?_
                      refine ex_iload_n ok_X12_stopped (mi 160 rfl) rfl ?_
                      refine sm_V (As := [_]) ok_X12_stopped (mi 161 rfl) rfl (s_X12_pick hst J166 (by omega)) rfl (fk (MI_s J166) 0 rfl) rfl rfl (by decide) (by decide) (Nat.le_of_ble_eq_true rfl) (by decide) SM_no (fun z169 g171 p170 => ?_)
                      obtain ⟨u173, eu173, u173p, J172⟩ := p170
                      cases eu173
                      obtain rfl : z169 = none := u173p
                      refine ex_goto (tgt := 266) ok_X12_stopped (mi 162 rfl) rfl ?_
                      refine ex_vret ok_X12_stopped (mi 176 rfl) rfl ?_
                      exact ⟨_, rfl, rfl, J172⟩
                  · skip
                    refine ex_vret ok_X12_stopped (mi 139 rfl) rfl ?_
                    exact ⟨_, rfl, rfl, J139⟩
              · skip
                have l117 : k110 < m := Nat.lt_of_not_le (fun q => h117 (nI_le q (by omega)))
                refine ex_aload_n ok_X12_stopped (mi 82 rfl) rfl ?_
                refine ex_getRx ok_X12_stopped (mi 83 rfl) rfl rfl (fk (MI_s J21) 0 rfl) (fr (MI_s J21) 30 rfl) (fk (MI_s J21) 31 rfl) (by decide) ?_
                refine ex_sipush ok_X12_stopped (mi 84 rfl) ?_
                refine ex_iload_n ok_X12_stopped (mi 85 rfl) rfl ?_
                refine ex_imul ok_X12_stopped (mi 86 rfl) ?_
                refine ex_top (w := (nI (300 * a0))) (nI_mulc rfl) ?_
                refine ex_aload_n ok_X12_stopped (mi 87 rfl) rfl ?_
                refine ex_iload_n ok_X12_stopped (mi 88 rfl) rfl ?_
                refine ex_iload_n ok_X12_stopped (mi 89 rfl) rfl ?_
                refine sf_Vp (As := [_, _]) ok_X12_stopped (mi 90 rfl) rfl (s_entryRound hst (MI_s J21) (m := m) (by omega) (by omega) (by omega) (mk110_0.2.2.2.2.2.2.2.2.2.1 (by decide))) rfl (fk (MI_s J21) 0 rfl) rfl rfl (by decide) (by decide) (Nat.le_of_ble_eq_true rfl) (by decide) (fun z174 p175 => ?_)
                obtain ⟨v178, hv178, rfl⟩ := p175
                refine ex_iadd ok_X12_stopped (mi 91 rfl) ?_
                refine ex_top (w := (nI (300 * a0 + v178))) (nI_add _ _) ?_
                refine ex_aload_n ok_X12_stopped (mi 92 rfl) rfl ?_
                refine ex_iload_n ok_X12_stopped (mi 93 rfl) rfl ?_
                refine ex_iload_n ok_X12_stopped (mi 94 rfl) rfl ?_
                refine sf_Vp (As := [_, _]) ok_X12_stopped (mi 95 rfl) rfl (s_entryGroup hst (MI_s J21) (m := m) (by omega) (by omega) (by omega)) rfl (fk (MI_s J21) 0 rfl) rfl rfl (by decide) (by decide) (Nat.le_of_ble_eq_true rfl) (by decide) (fun z179 p180 => ?_)
                obtain ⟨v183, rfl⟩ := p180
                refine mf_A J21 ok_X12_stopped (mi 96 rfl) (fk (MI_s J21) 31 rfl) (fn (MI_s J21) 31 rfl) rfl (by omega) (by decide) (by decide) (by decide) (by decide) (fun g184 J185 K186 => ?_)
                have mk187 := KK_mk K186 mk110_0
                refine ex_iincx (w := (nI (k110 + 1))) ok_X12_stopped (mi 97 rfl) rfl (nI_1 _) ?_
                refine ex_goto (tgt := 110) ok_X12_stopped (mi 98 rfl) rfl ?_
                exact ex_ls (ls' := [(0, .ref y), (1, .int (nI (a0))), (2, .int (nI (a1))), (3, .int (nI (k110 + 1)))]) ⟨rfl, rfl, rfl, rfl, trivial⟩ (ih110 (k110 + 1) (by omega) g184 J185 mk187)
          exact ex_ls (ls' := [(0, .ref y), (1, .int (nI (a0))), (2, .int (nI (a1))), (3, .int (nI 0))]) ⟨rfl, rfl, rfl, rfl, trivial⟩ (lp110 (300 - 0) (0) (by omega) g16 J17 mk19)
        · skip
          refine ex_aload_n ok_X12_stopped (mi 60 rfl) rfl ?_
          refine ex_getRx ok_X12_stopped (mi 61 rfl) rfl rfl (fk (MI_s J11) 0 rfl) (fr (MI_s J11) 52 rfl) (fk (MI_s J11) 53 rfl) (by decide) ?_
          refine ex_iconst ok_X12_stopped (mi 62 rfl) ?_
          refine ex_iload_n ok_X12_stopped (mi 63 rfl) rfl ?_
          refine ex_imul ok_X12_stopped (mi 64 rfl) ?_
          refine ex_top (w := (nI (3 * a1))) (nI_mulc rfl) ?_
          refine ex_iconst ok_X12_stopped (mi 65 rfl) ?_
          refine ex_iadd ok_X12_stopped (mi 66 rfl) ?_
          refine ex_top (w := (nI (3 * a1 + 2))) (nI_add _ 2) ?_
          refine sm_iald ok_X12_stopped (mi 67 rfl) (fk (MI_s J11) 53 rfl) (fn (MI_s J11) 53 rfl) rfl (by omega) (by decide) ?_
          obtain ⟨v188, hv188, ev188⟩ := vp_in_of (n := 300) (vb_in mk13.2.2.2.2.2.1 (by decide)) (by decide)
          refine ex_top (w := nI v188) ev188 ?_
          refine ex_goto (tgt := 107) ok_X12_stopped (mi 68 rfl) rfl ?_
          refine mf_B J11 ok_X12_stopped (mi 73 rfl) (fk (MI_s J11) 30 rfl) (fn (MI_s J11) 30 rfl) rfl (by omega) (by decide) (B := 300) (by decide) (by decide) (by decide) (vp_in_nI (N := 300) (by omega) (by decide)) (fun g189 J190 K191 => ?_)
          have mk192 := KK_mk K191 mk13
          refine ex_iconst ok_X12_stopped (mi 74 rfl) ?_
          refine ex_istore_n ok_X12_stopped (mi 75 rfl) ?_
          have lp110 : ∀ n110 k110 : Nat, k110 + n110 = 300 → ∀ (g193 : GT), MI y D c R g193 → MK y g193 a1 17 m → ex_W G 4 0 0 M_X12_stopped 110 [(0, .ref y), (1, .int (nI (a0))), (2, .int (nI (a1))), (3, .int (nI (k110)))] [] g193 (SM y D c R pN) := by
            intro n110
            induction n110 with
            | zero =>
              intro k110 he110  g193 J194 mk110_0
              obtain rfl : k110 = 300 := by omega
              refine ex_iload_n ok_X12_stopped (mi 76 rfl) rfl ?_
              refine ex_aload_n ok_X12_stopped (mi 77 rfl) rfl ?_
              refine ex_getRx ok_X12_stopped (mi 78 rfl) rfl rfl (fk (MI_s J194) 0 rfl) (fr (MI_s J194) 53 rfl) (fk (MI_s J194) 54 rfl) (by decide) ?_
              refine ex_iload_n ok_X12_stopped (mi 79 rfl) rfl ?_
              refine sm_iald ok_X12_stopped (mi 80 rfl) (fk (MI_s J194) 54 rfl) (fn (MI_s J194) 54 rfl) rfl (by omega) (by decide) ?_
              refine ex_top (w := nI m) mk110_0.2.2.2.2.2.2.2.2.1 ?_
              refine ex_icmp_ge (tgt := 149) ok_X12_stopped (mi 81 rfl) rfl (fun _ => ?_) (fun hn => absurd (nI_le (b := 300) (a := m) (by omega) (by omega)) hn)
              refine ex_aload_n ok_X12_stopped (mi 99 rfl) rfl ?_
              refine ex_getRx ok_X12_stopped (mi 100 rfl) rfl rfl (fk (MI_s J194) 0 rfl) (fr (MI_s J194) 54 rfl) (fk (MI_s J194) 55 rfl) (by decide) ?_
              refine ex_iconst ok_X12_stopped (mi 101 rfl) ?_
              refine ex_iload_n ok_X12_stopped (mi 102 rfl) rfl ?_
              refine ex_imul ok_X12_stopped (mi 103 rfl) ?_
              refine ex_top (w := (nI (2 * a1))) (nI_mulc rfl) ?_
              refine sm_iald ok_X12_stopped (mi 104 rfl) (fk (MI_s J194) 55 rfl) (fn (MI_s J194) 55 rfl) rfl (by omega) (by decide) ?_
              refine ex_gen (fun w195 => ?_)
              refine ex_aload_n ok_X12_stopped (mi 105 rfl) rfl ?_
              refine ex_getRx ok_X12_stopped (mi 106 rfl) rfl rfl (fk (MI_s J194) 0 rfl) (fr (MI_s J194) 31 rfl) (fk (MI_s J194) 32 rfl) (by decide) ?_
              refine ex_iload_n ok_X12_stopped (mi 107 rfl) rfl ?_
              refine sm_iald ok_X12_stopped (mi 108 rfl) (fk (MI_s J194) 32 rfl) (fn (MI_s J194) 32 rfl) rfl (by omega) (by decide) ?_
              refine ex_gen (fun w196 => ?_)
              refine ex_icmp_le (tgt := 196) ok_X12_stopped (mi 109 rfl) rfl (fun h163 => ?_) (fun h163 => ?_)
              · skip
                refine ex_aload_n ok_X12_stopped (mi 132 rfl) rfl ?_
                refine ex_getRx ok_X12_stopped (mi 133 rfl) rfl rfl (fk (MI_s J194) 0 rfl) (fr (MI_s J194) 28 rfl) (fk (MI_s J194) 29 rfl) (by decide) ?_
                refine ex_iload_n ok_X12_stopped (mi 134 rfl) rfl ?_
                refine sm_iald ok_X12_stopped (mi 135 rfl) (fk (MI_s J194) 29 rfl) (fn (MI_s J194) 29 rfl) rfl (by omega) (by decide) ?_
                refine ex_gen (fun w197 => ?_)
                refine sf_Sp (As := [_]) ok_X12_stopped (mi 136 rfl) rfl (s_X12_bits hst (MI_s J194)) rfl rfl rfl (by decide) (Nat.le_of_ble_eq_true rfl) (by decide) (fun z198 p199 => ?_)
                obtain ⟨v202, rfl⟩ := p199
                refine ex_iconst ok_X12_stopped (mi 137 rfl) ?_
                refine ex_icmp_ge (tgt := 210) ok_X12_stopped (mi 138 rfl) rfl (fun h206 => ?_) (fun h206 => ?_)
                · skip
                  refine ex_aload_n ok_X12_stopped (mi 140 rfl) rfl ?_
                  refine ex_getRx ok_X12_stopped (mi 141 rfl) rfl rfl (fk (MI_s J194) 0 rfl) (fr (MI_s J194) 28 rfl) (fk (MI_s J194) 29 rfl) (by decide) ?_
                  refine ex_iload_n ok_X12_stopped (mi 142 rfl) rfl ?_
                  refine ex_iconst ok_X12_stopped (mi 143 rfl) ?_
                  refine mf_A J194 ok_X12_stopped (mi 144 rfl) (fk (MI_s J194) 29 rfl) (fn (MI_s J194) 29 rfl) rfl (by omega) (by decide) (by decide) (by decide) (by decide) (fun g203 J204 K205 => ?_)
                  have mk206 := KK_mk K205 mk110_0
                  refine ex_aload_n ok_X12_stopped (mi 145 rfl) rfl ?_
                  refine ex_getRx ok_X12_stopped (mi 146 rfl) rfl rfl (fk (MI_s J204) 0 rfl) (fr (MI_s J204) 31 rfl) (fk (MI_s J204) 32 rfl) (by decide) ?_
                  refine ex_iload_n ok_X12_stopped (mi 147 rfl) rfl ?_
                  refine sm_iald ok_X12_stopped (mi 148 rfl) (fk (MI_s J204) 32 rfl) (fn (MI_s J204) 32 rfl) rfl (by omega) (by decide) ?_
                  refine ex_gen (fun w207 => ?_)
                  refine ex_iconst ok_X12_stopped (mi 149 rfl) ?_
                  refine ex_icmp_eq (tgt := 247) ok_X12_stopped (mi 150 rfl) rfl (fun h224 => ?_) (fun h224 => ?_)
                  · skip
                    refine ex_aload_n ok_X12_stopped (mi 163 rfl) rfl ?_
                    refine ex_getRx ok_X12_stopped (mi 164 rfl) rfl rfl (fk (MI_s J204) 0 rfl) (fr (MI_s J204) 25 rfl) (fk (MI_s J204) 26 rfl) (by decide) ?_
                    refine ex_iload_n ok_X12_stopped (mi 165 rfl) rfl ?_
                    refine ex_iconst ok_X12_stopped (mi 166 rfl) ?_
                    refine mf_A J204 ok_X12_stopped (mi 167 rfl) (fk (MI_s J204) 26 rfl) (fn (MI_s J204) 26 rfl) rfl (by omega) (by decide) (by decide) (by decide) (by decide) (fun g208 J209 K210 => ?_)
                    have mk211 := KK_mk K210 mk206
                    refine ex_aload_n ok_X12_stopped (mi 168 rfl) rfl ?_
                    refine ex_iload_n ok_X12_stopped (mi 169 rfl) rfl ?_
                    refine ex_aload_n ok_X12_stopped (mi 170 rfl) rfl ?_
                    refine ex_getRx ok_X12_stopped (mi 171 rfl) rfl rfl (fk (MI_s J209) 0 rfl) (fr (MI_s J209) 26 rfl) (fk (MI_s J209) 27 rfl) (by decide) ?_
                    refine ex_iload_n ok_X12_stopped (mi 172 rfl) rfl ?_
                    refine sm_iald ok_X12_stopped (mi 173 rfl) (fk (MI_s J209) 27 rfl) (fn (MI_s J209) 27 rfl) rfl (by omega) (by decide) ?_
                    obtain ⟨v212, hv212, ev212⟩ := vp_in_of (n := 512) (MI_bd J209 6 rfl (i := a0) (by omega)) (by decide)
                    refine ex_top (w := nI v212) ev212 ?_
                    refine sm_V (As := [_, _]) ok_X12_stopped (mi 174 rfl) rfl (s_X12_seed hst J209 (by omega)) rfl (fk (MI_s J209) 0 rfl) rfl rfl (by decide) (by decide) (Nat.le_of_ble_eq_true rfl) (by decide) SM_no (fun z213 g215 p214 => ?_)
                    obtain ⟨u217, eu217, u217p, J216⟩ := p214
                    cases eu217
                    obtain ⟨v218, rfl⟩ := u217p
                    refine ex_istore_n ok_X12_stopped (mi 175 rfl) ?_
                    refine ex_vret ok_X12_stopped (mi 176 rfl) rfl ?_
                    exact ⟨_, rfl, rfl, J216⟩
                  · skip
                    refine ex_aload_n ok_X12_stopped (mi 151 rfl) rfl ?_
                    refine ex_getRx ok_X12_stopped (mi 152 rfl) rfl rfl (fk (MI_s J204) 0 rfl) (fr (MI_s J204) 26 rfl) (fk (MI_s J204) 27 rfl) (by decide) ?_
                    refine ex_iload_n ok_X12_stopped (mi 153 rfl) rfl ?_
                    refine ex_aload_n ok_X12_stopped (mi 154 rfl) rfl ?_
                    refine ex_getRx ok_X12_stopped (mi 155 rfl) rfl rfl (fk (MI_s J204) 0 rfl) (fr (MI_s J204) 32 rfl) (fk (MI_s J204) 33 rfl) (by decide) ?_
                    refine ex_iload_n ok_X12_stopped (mi 156 rfl) rfl ?_
                    refine sm_iald ok_X12_stopped (mi 157 rfl) (fk (MI_s J204) 33 rfl) (fn (MI_s J204) 33 rfl) rfl (by omega) (by decide) ?_
                    obtain ⟨v219, hv219, ev219⟩ := vp_in_of (n := 512) (MI_bd J204 8 rfl (i := a0) (by omega)) (by decide)
                    refine ex_top (w := nI v219) ev219 ?_
                    refine mf_B J204 ok_X12_stopped (mi 158 rfl) (fk (MI_s J204) 27 rfl) (fn (MI_s J204) 27 rfl) rfl (by omega) (by decide) (B := 512) (by decide) (by decide) (by decide) (vp_in_nI (N := 512) (by omega) (by decide)) (fun g220 J221 K222 => ?_)
                    have mk223 := KK_mk K222 mk206
                    refine ex_aload_n ok_X12_stopped (mi 159 rfl) rfl ?_
                    refine ex_iload_n ok_X12_stopped (mi 160 rfl) rfl ?_
                    refine sm_V (As := [_]) ok_X12_stopped (mi 161 rfl) rfl (s_X12_pick hst J221 (by omega)) rfl (fk (MI_s J221) 0 rfl) rfl rfl (by decide) (by decide) (Nat.le_of_ble_eq_true rfl) (by decide) SM_no (fun z224 g226 p225 => ?_)
                    obtain ⟨u228, eu228, u228p, J227⟩ := p225
                    cases eu228
                    obtain rfl : z224 = none := u228p
                    refine ex_goto (tgt := 266) ok_X12_stopped (mi 162 rfl) rfl ?_
                    refine ex_vret ok_X12_stopped (mi 176 rfl) rfl ?_
                    exact ⟨_, rfl, rfl, J227⟩
                · skip
                  refine ex_vret ok_X12_stopped (mi 139 rfl) rfl ?_
                  exact ⟨_, rfl, rfl, J194⟩
              · skip
                refine ex_aload_n ok_X12_stopped (mi 110 rfl) rfl ?_
                refine ex_getRx ok_X12_stopped (mi 111 rfl) rfl rfl (fk (MI_s J194) 0 rfl) (fr (MI_s J194) 31 rfl) (fk (MI_s J194) 32 rfl) (by decide) ?_
                refine ex_iload_n ok_X12_stopped (mi 112 rfl) rfl ?_
                refine ex_aload_n ok_X12_stopped (mi 113 rfl) rfl ?_
                refine ex_getRx ok_X12_stopped (mi 114 rfl) rfl rfl (fk (MI_s J194) 0 rfl) (fr (MI_s J194) 54 rfl) (fk (MI_s J194) 55 rfl) (by decide) ?_
                refine ex_iconst ok_X12_stopped (mi 115 rfl) ?_
                refine ex_iload_n ok_X12_stopped (mi 116 rfl) rfl ?_
                refine ex_imul ok_X12_stopped (mi 117 rfl) ?_
                refine ex_top (w := (nI (2 * a1))) (nI_mulc rfl) ?_
                refine sm_iald ok_X12_stopped (mi 118 rfl) (fk (MI_s J194) 55 rfl) (fn (MI_s J194) 55 rfl) rfl (by omega) (by decide) ?_
                refine ex_gen (fun w229 => ?_)
                refine mf_A J194 ok_X12_stopped (mi 119 rfl) (fk (MI_s J194) 32 rfl) (fn (MI_s J194) 32 rfl) rfl (by omega) (by decide) (by decide) (by decide) (by decide) (fun g230 J231 K232 => ?_)
                have mk233 := KK_mk K232 mk110_0
                refine ex_aload_n ok_X12_stopped (mi 120 rfl) rfl ?_
                refine ex_getRx ok_X12_stopped (mi 121 rfl) rfl rfl (fk (MI_s J231) 0 rfl) (fr (MI_s J231) 32 rfl) (fk (MI_s J231) 33 rfl) (by decide) ?_
                refine ex_iload_n ok_X12_stopped (mi 122 rfl) rfl ?_
                refine ex_aload_n ok_X12_stopped (mi 123 rfl) rfl ?_
                refine ex_getRx ok_X12_stopped (mi 124 rfl) rfl rfl (fk (MI_s J231) 0 rfl) (fr (MI_s J231) 54 rfl) (fk (MI_s J231) 55 rfl) (by decide) ?_
                refine ex_iconst ok_X12_stopped (mi 125 rfl) ?_
                refine ex_iload_n ok_X12_stopped (mi 126 rfl) rfl ?_
                refine ex_imul ok_X12_stopped (mi 127 rfl) ?_
                refine ex_top (w := (nI (2 * a1))) (nI_mulc rfl) ?_
                refine ex_iconst ok_X12_stopped (mi 128 rfl) ?_
                refine ex_iadd ok_X12_stopped (mi 129 rfl) ?_
                refine ex_top (w := (nI (2 * a1 + 1))) (nI_add _ 1) ?_
                refine sm_iald ok_X12_stopped (mi 130 rfl) (fk (MI_s J231) 55 rfl) (fn (MI_s J231) 55 rfl) rfl (by omega) (by decide) ?_
                obtain ⟨v234, hv234, ev234⟩ := vp_in_of (n := 512) (vb_in mk233.2.2.2.2.2.2.1 (by decide)) (by decide)
                refine ex_top (w := nI v234) ev234 ?_
                refine mf_B J231 ok_X12_stopped (mi 131 rfl) (fk (MI_s J231) 33 rfl) (fn (MI_s J231) 33 rfl) rfl (by omega) (by decide) (B := 512) (by decide) (by decide) (by decide) (vp_in_nI (N := 512) (by omega) (by decide)) (fun g235 J236 K237 => ?_)
                have mk238 := KK_mk K237 mk233
                refine ex_aload_n ok_X12_stopped (mi 132 rfl) rfl ?_
                refine ex_getRx ok_X12_stopped (mi 133 rfl) rfl rfl (fk (MI_s J236) 0 rfl) (fr (MI_s J236) 28 rfl) (fk (MI_s J236) 29 rfl) (by decide) ?_
                refine ex_iload_n ok_X12_stopped (mi 134 rfl) rfl ?_
                refine sm_iald ok_X12_stopped (mi 135 rfl) (fk (MI_s J236) 29 rfl) (fn (MI_s J236) 29 rfl) rfl (by omega) (by decide) ?_
                refine ex_gen (fun w239 => ?_)
                refine sf_Sp (As := [_]) ok_X12_stopped (mi 136 rfl) rfl (s_X12_bits hst (MI_s J236)) rfl rfl rfl (by decide) (Nat.le_of_ble_eq_true rfl) (by decide) (fun z240 p241 => ?_)
                obtain ⟨v244, rfl⟩ := p241
                refine ex_iconst ok_X12_stopped (mi 137 rfl) ?_
                refine ex_icmp_ge (tgt := 210) ok_X12_stopped (mi 138 rfl) rfl (fun h206 => ?_) (fun h206 => ?_)
                · skip
                  refine ex_aload_n ok_X12_stopped (mi 140 rfl) rfl ?_
                  refine ex_getRx ok_X12_stopped (mi 141 rfl) rfl rfl (fk (MI_s J236) 0 rfl) (fr (MI_s J236) 28 rfl) (fk (MI_s J236) 29 rfl) (by decide) ?_
                  refine ex_iload_n ok_X12_stopped (mi 142 rfl) rfl ?_
                  refine ex_iconst ok_X12_stopped (mi 143 rfl) ?_
                  refine mf_A J236 ok_X12_stopped (mi 144 rfl) (fk (MI_s J236) 29 rfl) (fn (MI_s J236) 29 rfl) rfl (by omega) (by decide) (by decide) (by decide) (by decide) (fun g245 J246 K247 => ?_)
                  have mk248 := KK_mk K247 mk238
                  refine ex_aload_n ok_X12_stopped (mi 145 rfl) rfl ?_
                  refine ex_getRx ok_X12_stopped (mi 146 rfl) rfl rfl (fk (MI_s J246) 0 rfl) (fr (MI_s J246) 31 rfl) (fk (MI_s J246) 32 rfl) (by decide) ?_
                  refine ex_iload_n ok_X12_stopped (mi 147 rfl) rfl ?_
                  refine sm_iald ok_X12_stopped (mi 148 rfl) (fk (MI_s J246) 32 rfl) (fn (MI_s J246) 32 rfl) rfl (by omega) (by decide) ?_
                  refine ex_gen (fun w249 => ?_)
                  refine ex_iconst ok_X12_stopped (mi 149 rfl) ?_
                  refine ex_icmp_eq (tgt := 247) ok_X12_stopped (mi 150 rfl) rfl (fun h224 => ?_) (fun h224 => ?_)
                  · skip
                    refine ex_aload_n ok_X12_stopped (mi 163 rfl) rfl ?_
                    refine ex_getRx ok_X12_stopped (mi 164 rfl) rfl rfl (fk (MI_s J246) 0 rfl) (fr (MI_s J246) 25 rfl) (fk (MI_s J246) 26 rfl) (by decide) ?_
                    refine ex_iload_n ok_X12_stopped (mi 165 rfl) rfl ?_
                    refine ex_iconst ok_X12_stopped (mi 166 rfl) ?_
                    refine mf_A J246 ok_X12_stopped (mi 167 rfl) (fk (MI_s J246) 26 rfl) (fn (MI_s J246) 26 rfl) rfl (by omega) (by decide) (by decide) (by decide) (by decide) (fun g250 J251 K252 => ?_)
                    have mk253 := KK_mk K252 mk248
                    refine ex_aload_n ok_X12_stopped (mi 168 rfl) rfl ?_
                    refine ex_iload_n ok_X12_stopped (mi 169 rfl) rfl ?_
                    refine ex_aload_n ok_X12_stopped (mi 170 rfl) rfl ?_
                    refine ex_getRx ok_X12_stopped (mi 171 rfl) rfl rfl (fk (MI_s J251) 0 rfl) (fr (MI_s J251) 26 rfl) (fk (MI_s J251) 27 rfl) (by decide) ?_
                    refine ex_iload_n ok_X12_stopped (mi 172 rfl) rfl ?_
                    refine sm_iald ok_X12_stopped (mi 173 rfl) (fk (MI_s J251) 27 rfl) (fn (MI_s J251) 27 rfl) rfl (by omega) (by decide) ?_
                    obtain ⟨v254, hv254, ev254⟩ := vp_in_of (n := 512) (MI_bd J251 6 rfl (i := a0) (by omega)) (by decide)
                    refine ex_top (w := nI v254) ev254 ?_
                    refine sm_V (As := [_, _]) ok_X12_stopped (mi 174 rfl) rfl (s_X12_seed hst J251 (by omega)) rfl (fk (MI_s J251) 0 rfl) rfl rfl (by decide) (by decide) (Nat.le_of_ble_eq_true rfl) (by decide) SM_no (fun z255 g257 p256 => ?_)
                    obtain ⟨u259, eu259, u259p, J258⟩ := p256
                    cases eu259
                    obtain ⟨v260, rfl⟩ := u259p
                    refine ex_istore_n ok_X12_stopped (mi 175 rfl) ?_
                    refine ex_vret ok_X12_stopped (mi 176 rfl) rfl ?_
                    exact ⟨_, rfl, rfl, J258⟩
                  · skip
                    refine ex_aload_n ok_X12_stopped (mi 151 rfl) rfl ?_
                    refine ex_getRx ok_X12_stopped (mi 152 rfl) rfl rfl (fk (MI_s J246) 0 rfl) (fr (MI_s J246) 26 rfl) (fk (MI_s J246) 27 rfl) (by decide) ?_
                    refine ex_iload_n ok_X12_stopped (mi 153 rfl) rfl ?_
                    refine ex_aload_n ok_X12_stopped (mi 154 rfl) rfl ?_
                    refine ex_getRx ok_X12_stopped (mi 155 rfl) rfl rfl (fk (MI_s J246) 0 rfl) (fr (MI_s J246) 32 rfl) (fk (MI_s J246) 33 rfl) (by decide) ?_
                    refine ex_iload_n ok_X12_stopped (mi 156 rfl) rfl ?_
                    refine sm_iald ok_X12_stopped (mi 157 rfl) (fk (MI_s J246) 33 rfl) (fn (MI_s J246) 33 rfl) rfl (by omega) (by decide) ?_
                    obtain ⟨v261, hv261, ev261⟩ := vp_in_of (n := 512) (MI_bd J246 8 rfl (i := a0) (by omega)) (by decide)
                    refine ex_top (w := nI v261) ev261 ?_
                    refine mf_B J246 ok_X12_stopped (mi 158 rfl) (fk (MI_s J246) 27 rfl) (fn (MI_s J246) 27 rfl) rfl (by omega) (by decide) (B := 512) (by decide) (by decide) (by decide) (vp_in_nI (N := 512) (by omega) (by decide)) (fun g262 J263 K264 => ?_)
                    have mk265 := KK_mk K264 mk248
                    refine ex_aload_n ok_X12_stopped (mi 159 rfl) rfl ?_
                    refine ex_iload_n ok_X12_stopped (mi 160 rfl) rfl ?_
                    refine sm_V (As := [_]) ok_X12_stopped (mi 161 rfl) rfl (s_X12_pick hst J263 (by omega)) rfl (fk (MI_s J263) 0 rfl) rfl rfl (by decide) (by decide) (Nat.le_of_ble_eq_true rfl) (by decide) SM_no (fun z266 g268 p267 => ?_)
                    obtain ⟨u270, eu270, u270p, J269⟩ := p267
                    cases eu270
                    obtain rfl : z266 = none := u270p
                    refine ex_goto (tgt := 266) ok_X12_stopped (mi 162 rfl) rfl ?_
                    refine ex_vret ok_X12_stopped (mi 176 rfl) rfl ?_
                    exact ⟨_, rfl, rfl, J269⟩
                · skip
                  refine ex_vret ok_X12_stopped (mi 139 rfl) rfl ?_
                  exact ⟨_, rfl, rfl, J236⟩
            | succ n110 ih110 =>
              intro k110 he110  g193 J194 mk110_0
              have hr110 : k110 < 300 := by omega
              refine ex_iload_n ok_X12_stopped (mi 76 rfl) rfl ?_
              refine ex_aload_n ok_X12_stopped (mi 77 rfl) rfl ?_
              refine ex_getRx ok_X12_stopped (mi 78 rfl) rfl rfl (fk (MI_s J194) 0 rfl) (fr (MI_s J194) 53 rfl) (fk (MI_s J194) 54 rfl) (by decide) ?_
              refine ex_iload_n ok_X12_stopped (mi 79 rfl) rfl ?_
              refine sm_iald ok_X12_stopped (mi 80 rfl) (fk (MI_s J194) 54 rfl) (fn (MI_s J194) 54 rfl) rfl (by omega) (by decide) ?_
              refine ex_top (w := nI m) mk110_0.2.2.2.2.2.2.2.2.1 ?_
              refine ex_icmp_ge (tgt := 149) ok_X12_stopped (mi 81 rfl) rfl (fun h117 => ?_) (fun h117 => ?_)
              · skip
                refine ex_aload_n ok_X12_stopped (mi 99 rfl) rfl ?_
                refine ex_getRx ok_X12_stopped (mi 100 rfl) rfl rfl (fk (MI_s J194) 0 rfl) (fr (MI_s J194) 54 rfl) (fk (MI_s J194) 55 rfl) (by decide) ?_
                refine ex_iconst ok_X12_stopped (mi 101 rfl) ?_
                refine ex_iload_n ok_X12_stopped (mi 102 rfl) rfl ?_
                refine ex_imul ok_X12_stopped (mi 103 rfl) ?_
                refine ex_top (w := (nI (2 * a1))) (nI_mulc rfl) ?_
                refine sm_iald ok_X12_stopped (mi 104 rfl) (fk (MI_s J194) 55 rfl) (fn (MI_s J194) 55 rfl) rfl (by omega) (by decide) ?_
                refine ex_gen (fun w271 => ?_)
                refine ex_aload_n ok_X12_stopped (mi 105 rfl) rfl ?_
                refine ex_getRx ok_X12_stopped (mi 106 rfl) rfl rfl (fk (MI_s J194) 0 rfl) (fr (MI_s J194) 31 rfl) (fk (MI_s J194) 32 rfl) (by decide) ?_
                refine ex_iload_n ok_X12_stopped (mi 107 rfl) rfl ?_
                refine sm_iald ok_X12_stopped (mi 108 rfl) (fk (MI_s J194) 32 rfl) (fn (MI_s J194) 32 rfl) rfl (by omega) (by decide) ?_
                refine ex_gen (fun w272 => ?_)
                refine ex_icmp_le (tgt := 196) ok_X12_stopped (mi 109 rfl) rfl (fun h163 => ?_) (fun h163 => ?_)
                · skip
                  refine ex_aload_n ok_X12_stopped (mi 132 rfl) rfl ?_
                  refine ex_getRx ok_X12_stopped (mi 133 rfl) rfl rfl (fk (MI_s J194) 0 rfl) (fr (MI_s J194) 28 rfl) (fk (MI_s J194) 29 rfl) (by decide) ?_
                  refine ex_iload_n ok_X12_stopped (mi 134 rfl) rfl ?_
                  refine sm_iald ok_X12_stopped (mi 135 rfl) (fk (MI_s J194) 29 rfl) (fn (MI_s J194) 29 rfl) rfl (by omega) (by decide) ?_
                  refine ex_gen (fun w273 => ?_)
                  refine sf_Sp (As := [_]) ok_X12_stopped (mi 136 rfl) rfl (s_X12_bits hst (MI_s J194)) rfl rfl rfl (by decide) (Nat.le_of_ble_eq_true rfl) (by decide) (fun z274 p275 => ?_)
                  obtain ⟨v278, rfl⟩ := p275
                  refine ex_iconst ok_X12_stopped (mi 137 rfl) ?_
                  refine ex_icmp_ge (tgt := 210) ok_X12_stopped (mi 138 rfl) rfl (fun h206 => ?_) (fun h206 => ?_)
                  · skip
                    refine ex_aload_n ok_X12_stopped (mi 140 rfl) rfl ?_
                    refine ex_getRx ok_X12_stopped (mi 141 rfl) rfl rfl (fk (MI_s J194) 0 rfl) (fr (MI_s J194) 28 rfl) (fk (MI_s J194) 29 rfl) (by decide) ?_
                    refine ex_iload_n ok_X12_stopped (mi 142 rfl) rfl ?_
                    refine ex_iconst ok_X12_stopped (mi 143 rfl) ?_
                    refine mf_A J194 ok_X12_stopped (mi 144 rfl) (fk (MI_s J194) 29 rfl) (fn (MI_s J194) 29 rfl) rfl (by omega) (by decide) (by decide) (by decide) (by decide) (fun g279 J280 K281 => ?_)
                    have mk282 := KK_mk K281 mk110_0
                    refine ex_aload_n ok_X12_stopped (mi 145 rfl) rfl ?_
                    refine ex_getRx ok_X12_stopped (mi 146 rfl) rfl rfl (fk (MI_s J280) 0 rfl) (fr (MI_s J280) 31 rfl) (fk (MI_s J280) 32 rfl) (by decide) ?_
                    refine ex_iload_n ok_X12_stopped (mi 147 rfl) rfl ?_
                    refine sm_iald ok_X12_stopped (mi 148 rfl) (fk (MI_s J280) 32 rfl) (fn (MI_s J280) 32 rfl) rfl (by omega) (by decide) ?_
                    refine ex_gen (fun w283 => ?_)
                    refine ex_iconst ok_X12_stopped (mi 149 rfl) ?_
                    refine ex_icmp_eq (tgt := 247) ok_X12_stopped (mi 150 rfl) rfl (fun h224 => ?_) (fun h224 => ?_)
                    · skip
                      refine ex_aload_n ok_X12_stopped (mi 163 rfl) rfl ?_
                      refine ex_getRx ok_X12_stopped (mi 164 rfl) rfl rfl (fk (MI_s J280) 0 rfl) (fr (MI_s J280) 25 rfl) (fk (MI_s J280) 26 rfl) (by decide) ?_
                      refine ex_iload_n ok_X12_stopped (mi 165 rfl) rfl ?_
                      refine ex_iconst ok_X12_stopped (mi 166 rfl) ?_
                      refine mf_A J280 ok_X12_stopped (mi 167 rfl) (fk (MI_s J280) 26 rfl) (fn (MI_s J280) 26 rfl) rfl (by omega) (by decide) (by decide) (by decide) (by decide) (fun g284 J285 K286 => ?_)
                      have mk287 := KK_mk K286 mk282
                      refine ex_aload_n ok_X12_stopped (mi 168 rfl) rfl ?_
                      refine ex_iload_n ok_X12_stopped (mi 169 rfl) rfl ?_
                      refine ex_aload_n ok_X12_stopped (mi 170 rfl) rfl ?_
                      refine ex_getRx ok_X12_stopped (mi 171 rfl) rfl rfl (fk (MI_s J285) 0 rfl) (fr (MI_s J285) 26 rfl) (fk (MI_s J285) 27 rfl) (by decide) ?_
                      refine ex_iload_n ok_X12_stopped (mi 172 rfl) rfl ?_
                      refine sm_iald ok_X12_stopped (mi 173 rfl) (fk (MI_s J285) 27 rfl) (fn (MI_s J285) 27 rfl) rfl (by omega) (by decide) ?_
                      obtain ⟨v288, hv288, ev288⟩ := vp_in_of (n := 512) (MI_bd J285 6 rfl (i := a0) (by omega)) (by decide)
                      refine ex_top (w := nI v288) ev288 ?_
                      refine sm_V (As := [_, _]) ok_X12_stopped (mi 174 rfl) rfl (s_X12_seed hst J285 (by omega)) rfl (fk (MI_s J285) 0 rfl) rfl rfl (by decide) (by decide) (Nat.le_of_ble_eq_true rfl) (by decide) SM_no (fun z289 g291 p290 => ?_)
                      obtain ⟨u293, eu293, u293p, J292⟩ := p290
                      cases eu293
                      obtain ⟨v294, rfl⟩ := u293p
                      refine ex_istore_n ok_X12_stopped (mi 175 rfl) ?_
                      refine ex_vret ok_X12_stopped (mi 176 rfl) rfl ?_
                      exact ⟨_, rfl, rfl, J292⟩
                    · skip
                      refine ex_aload_n ok_X12_stopped (mi 151 rfl) rfl ?_
                      refine ex_getRx ok_X12_stopped (mi 152 rfl) rfl rfl (fk (MI_s J280) 0 rfl) (fr (MI_s J280) 26 rfl) (fk (MI_s J280) 27 rfl) (by decide) ?_
                      refine ex_iload_n ok_X12_stopped (mi 153 rfl) rfl ?_
                      refine ex_aload_n ok_X12_stopped (mi 154 rfl) rfl ?_
                      refine ex_getRx ok_X12_stopped (mi 155 rfl) rfl rfl (fk (MI_s J280) 0 rfl) (fr (MI_s J280) 32 rfl) (fk (MI_s J280) 33 rfl) (by decide) ?_
                      refine ex_iload_n ok_X12_stopped (mi 156 rfl) rfl ?_
                      refine sm_iald ok_X12_stopped (mi 157 rfl) (fk (MI_s J280) 33 rfl) (fn (MI_s J280) 33 rfl) rfl (by omega) (by decide) ?_
                      obtain ⟨v295, hv295, ev295⟩ := vp_in_of (n := 512) (MI_bd J280 8 rfl (i := a0) (by omega)) (by decide)
                      refine ex_top (w := nI v295) ev295 ?_
                      refine mf_B J280 ok_X12_stopped (mi 158 rfl) (fk (MI_s J280) 27 rfl) (fn (MI_s J280) 27 rfl) rfl (by omega) (by decide) (B := 512) (by decide) (by decide) (by decide) (vp_in_nI (N := 512) (by omega) (by decide)) (fun g296 J297 K298 => ?_)
                      have mk299 := KK_mk K298 mk282
                      refine ex_aload_n ok_X12_stopped (mi 159 rfl) rfl ?_
                      refine ex_iload_n ok_X12_stopped (mi 160 rfl) rfl ?_
                      refine sm_V (As := [_]) ok_X12_stopped (mi 161 rfl) rfl (s_X12_pick hst J297 (by omega)) rfl (fk (MI_s J297) 0 rfl) rfl rfl (by decide) (by decide) (Nat.le_of_ble_eq_true rfl) (by decide) SM_no (fun z300 g302 p301 => ?_)
                      obtain ⟨u304, eu304, u304p, J303⟩ := p301
                      cases eu304
                      obtain rfl : z300 = none := u304p
                      refine ex_goto (tgt := 266) ok_X12_stopped (mi 162 rfl) rfl ?_
                      refine ex_vret ok_X12_stopped (mi 176 rfl) rfl ?_
                      exact ⟨_, rfl, rfl, J303⟩
                  · skip
                    refine ex_vret ok_X12_stopped (mi 139 rfl) rfl ?_
                    exact ⟨_, rfl, rfl, J194⟩
                · skip
                  refine ex_aload_n ok_X12_stopped (mi 110 rfl) rfl ?_
                  refine ex_getRx ok_X12_stopped (mi 111 rfl) rfl rfl (fk (MI_s J194) 0 rfl) (fr (MI_s J194) 31 rfl) (fk (MI_s J194) 32 rfl) (by decide) ?_
                  refine ex_iload_n ok_X12_stopped (mi 112 rfl) rfl ?_
                  refine ex_aload_n ok_X12_stopped (mi 113 rfl) rfl ?_
                  refine ex_getRx ok_X12_stopped (mi 114 rfl) rfl rfl (fk (MI_s J194) 0 rfl) (fr (MI_s J194) 54 rfl) (fk (MI_s J194) 55 rfl) (by decide) ?_
                  refine ex_iconst ok_X12_stopped (mi 115 rfl) ?_
                  refine ex_iload_n ok_X12_stopped (mi 116 rfl) rfl ?_
                  refine ex_imul ok_X12_stopped (mi 117 rfl) ?_
                  refine ex_top (w := (nI (2 * a1))) (nI_mulc rfl) ?_
                  refine sm_iald ok_X12_stopped (mi 118 rfl) (fk (MI_s J194) 55 rfl) (fn (MI_s J194) 55 rfl) rfl (by omega) (by decide) ?_
                  refine ex_gen (fun w305 => ?_)
                  refine mf_A J194 ok_X12_stopped (mi 119 rfl) (fk (MI_s J194) 32 rfl) (fn (MI_s J194) 32 rfl) rfl (by omega) (by decide) (by decide) (by decide) (by decide) (fun g306 J307 K308 => ?_)
                  have mk309 := KK_mk K308 mk110_0
                  refine ex_aload_n ok_X12_stopped (mi 120 rfl) rfl ?_
                  refine ex_getRx ok_X12_stopped (mi 121 rfl) rfl rfl (fk (MI_s J307) 0 rfl) (fr (MI_s J307) 32 rfl) (fk (MI_s J307) 33 rfl) (by decide) ?_
                  refine ex_iload_n ok_X12_stopped (mi 122 rfl) rfl ?_
                  refine ex_aload_n ok_X12_stopped (mi 123 rfl) rfl ?_
                  refine ex_getRx ok_X12_stopped (mi 124 rfl) rfl rfl (fk (MI_s J307) 0 rfl) (fr (MI_s J307) 54 rfl) (fk (MI_s J307) 55 rfl) (by decide) ?_
                  refine ex_iconst ok_X12_stopped (mi 125 rfl) ?_
                  refine ex_iload_n ok_X12_stopped (mi 126 rfl) rfl ?_
                  refine ex_imul ok_X12_stopped (mi 127 rfl) ?_
                  refine ex_top (w := (nI (2 * a1))) (nI_mulc rfl) ?_
                  refine ex_iconst ok_X12_stopped (mi 128 rfl) ?_
                  refine ex_iadd ok_X12_stopped (mi 129 rfl) ?_
                  refine ex_top (w := (nI (2 * a1 + 1))) (nI_add _ 1) ?_
                  refine sm_iald ok_X12_stopped (mi 130 rfl) (fk (MI_s J307) 55 rfl) (fn (MI_s J307) 55 rfl) rfl (by omega) (by decide) ?_
                  obtain ⟨v310, hv310, ev310⟩ := vp_in_of (n := 512) (vb_in mk309.2.2.2.2.2.2.1 (by decide)) (by decide)
                  refine ex_top (w := nI v310) ev310 ?_
                  refine mf_B J307 ok_X12_stopped (mi 131 rfl) (fk (MI_s J307) 33 rfl) (fn (MI_s J307) 33 rfl) rfl (by omega) (by decide) (B := 512) (by decide) (by decide) (by decide) (vp_in_nI (N := 512) (by omega) (by decide)) (fun g311 J312 K313 => ?_)
                  have mk314 := KK_mk K313 mk309
                  refine ex_aload_n ok_X12_stopped (mi 132 rfl) rfl ?_
                  refine ex_getRx ok_X12_stopped (mi 133 rfl) rfl rfl (fk (MI_s J312) 0 rfl) (fr (MI_s J312) 28 rfl) (fk (MI_s J312) 29 rfl) (by decide) ?_
                  refine ex_iload_n ok_X12_stopped (mi 134 rfl) rfl ?_
                  refine sm_iald ok_X12_stopped (mi 135 rfl) (fk (MI_s J312) 29 rfl) (fn (MI_s J312) 29 rfl) rfl (by omega) (by decide) ?_
                  refine ex_gen (fun w315 => ?_)
                  refine sf_Sp (As := [_]) ok_X12_stopped (mi 136 rfl) rfl (s_X12_bits hst (MI_s J312)) rfl rfl rfl (by decide) (Nat.le_of_ble_eq_true rfl) (by decide) (fun z316 p317 => ?_)
                  obtain ⟨v320, rfl⟩ := p317
                  refine ex_iconst ok_X12_stopped (mi 137 rfl) ?_
                  refine ex_icmp_ge (tgt := 210) ok_X12_stopped (mi 138 rfl) rfl (fun h206 => ?_) (fun h206 => ?_)
                  · skip
                    refine ex_aload_n ok_X12_stopped (mi 140 rfl) rfl ?_
                    refine ex_getRx ok_X12_stopped (mi 141 rfl) rfl rfl (fk (MI_s J312) 0 rfl) (fr (MI_s J312) 28 rfl) (fk (MI_s J312) 29 rfl) (by decide) ?_
                    refine ex_iload_n ok_X12_stopped (mi 142 rfl) rfl ?_
                    refine ex_iconst ok_X12_stopped (mi 143 rfl) ?_
                    refine mf_A J312 ok_X12_stopped (mi 144 rfl) (fk (MI_s J312) 29 rfl) (fn (MI_s J312) 29 rfl) rfl (by omega) (by decide) (by decide) (by decide) (by decide) (fun g321 J322 K323 => ?_)
                    have mk324 := KK_mk K323 mk314
                    refine ex_aload_n ok_X12_stopped (mi 145 rfl) rfl ?_
                    refine ex_getRx ok_X12_stopped (mi 146 rfl) rfl rfl (fk (MI_s J322) 0 rfl) (fr (MI_s J322) 31 rfl) (fk (MI_s J322) 32 rfl) (by decide) ?_
                    refine ex_iload_n ok_X12_stopped (mi 147 rfl) rfl ?_
                    refine sm_iald ok_X12_stopped (mi 148 rfl) (fk (MI_s J322) 32 rfl) (fn (MI_s J322) 32 rfl) rfl (by omega) (by decide) ?_
                    refine ex_gen (fun w325 => ?_)
                    refine ex_iconst ok_X12_stopped (mi 149 rfl) ?_
                    refine ex_icmp_eq (tgt := 247) ok_X12_stopped (mi 150 rfl) rfl (fun h224 => ?_) (fun h224 => ?_)
                    · skip
                      refine ex_aload_n ok_X12_stopped (mi 163 rfl) rfl ?_
                      refine ex_getRx ok_X12_stopped (mi 164 rfl) rfl rfl (fk (MI_s J322) 0 rfl) (fr (MI_s J322) 25 rfl) (fk (MI_s J322) 26 rfl) (by decide) ?_
                      refine ex_iload_n ok_X12_stopped (mi 165 rfl) rfl ?_
                      refine ex_iconst ok_X12_stopped (mi 166 rfl) ?_
                      refine mf_A J322 ok_X12_stopped (mi 167 rfl) (fk (MI_s J322) 26 rfl) (fn (MI_s J322) 26 rfl) rfl (by omega) (by decide) (by decide) (by decide) (by decide) (fun g326 J327 K328 => ?_)
                      have mk329 := KK_mk K328 mk324
                      refine ex_aload_n ok_X12_stopped (mi 168 rfl) rfl ?_
                      refine ex_iload_n ok_X12_stopped (mi 169 rfl) rfl ?_
                      refine ex_aload_n ok_X12_stopped (mi 170 rfl) rfl ?_
                      refine ex_getRx ok_X12_stopped (mi 171 rfl) rfl rfl (fk (MI_s J327) 0 rfl) (fr (MI_s J327) 26 rfl) (fk (MI_s J327) 27 rfl) (by decide) ?_
                      refine ex_iload_n ok_X12_stopped (mi 172 rfl) rfl ?_
                      refine sm_iald ok_X12_stopped (mi 173 rfl) (fk (MI_s J327) 27 rfl) (fn (MI_s J327) 27 rfl) rfl (by omega) (by decide) ?_
                      obtain ⟨v330, hv330, ev330⟩ := vp_in_of (n := 512) (MI_bd J327 6 rfl (i := a0) (by omega)) (by decide)
                      refine ex_top (w := nI v330) ev330 ?_
                      refine sm_V (As := [_, _]) ok_X12_stopped (mi 174 rfl) rfl (s_X12_seed hst J327 (by omega)) rfl (fk (MI_s J327) 0 rfl) rfl rfl (by decide) (by decide) (Nat.le_of_ble_eq_true rfl) (by decide) SM_no (fun z331 g333 p332 => ?_)
                      obtain ⟨u335, eu335, u335p, J334⟩ := p332
                      cases eu335
                      obtain ⟨v336, rfl⟩ := u335p
                      refine ex_istore_n ok_X12_stopped (mi 175 rfl) ?_
                      refine ex_vret ok_X12_stopped (mi 176 rfl) rfl ?_
                      exact ⟨_, rfl, rfl, J334⟩
                    · skip
                      refine ex_aload_n ok_X12_stopped (mi 151 rfl) rfl ?_
                      refine ex_getRx ok_X12_stopped (mi 152 rfl) rfl rfl (fk (MI_s J322) 0 rfl) (fr (MI_s J322) 26 rfl) (fk (MI_s J322) 27 rfl) (by decide) ?_
                      refine ex_iload_n ok_X12_stopped (mi 153 rfl) rfl ?_
                      refine ex_aload_n ok_X12_stopped (mi 154 rfl) rfl ?_
                      refine ex_getRx ok_X12_stopped (mi 155 rfl) rfl rfl (fk (MI_s J322) 0 rfl) (fr (MI_s J322) 32 rfl) (fk (MI_s J322) 33 rfl) (by decide) ?_
                      refine ex_iload_n ok_X12_stopped (mi 156 rfl) rfl ?_
                      refine sm_iald ok_X12_stopped (mi 157 rfl) (fk (MI_s J322) 33 rfl) (fn (MI_s J322) 33 rfl) rfl (by omega) (by decide) ?_
                      obtain ⟨v337, hv337, ev337⟩ := vp_in_of (n := 512) (MI_bd J322 8 rfl (i := a0) (by omega)) (by decide)
                      refine ex_top (w := nI v337) ev337 ?_
                      refine mf_B J322 ok_X12_stopped (mi 158 rfl) (fk (MI_s J322) 27 rfl) (fn (MI_s J322) 27 rfl) rfl (by omega) (by decide) (B := 512) (by decide) (by decide) (by decide) (vp_in_nI (N := 512) (by omega) (by decide)) (fun g338 J339 K340 => ?_)
                      have mk341 := KK_mk K340 mk324
                      refine ex_aload_n ok_X12_stopped (mi 159 rfl) rfl ?_
                      refine ex_iload_n ok_X12_stopped (mi 160 rfl) rfl ?_
                      refine sm_V (As := [_]) ok_X12_stopped (mi 161 rfl) rfl (s_X12_pick hst J339 (by omega)) rfl (fk (MI_s J339) 0 rfl) rfl rfl (by decide) (by decide) (Nat.le_of_ble_eq_true rfl) (by decide) SM_no (fun z342 g344 p343 => ?_)
                      obtain ⟨u346, eu346, u346p, J345⟩ := p343
                      cases eu346
                      obtain rfl : z342 = none := u346p
                      refine ex_goto (tgt := 266) ok_X12_stopped (mi 162 rfl) rfl ?_
                      refine ex_vret ok_X12_stopped (mi 176 rfl) rfl ?_
                      exact ⟨_, rfl, rfl, J345⟩
                  · skip
                    refine ex_vret ok_X12_stopped (mi 139 rfl) rfl ?_
                    exact ⟨_, rfl, rfl, J312⟩
              · skip
                have l117 : k110 < m := Nat.lt_of_not_le (fun q => h117 (nI_le q (by omega)))
                refine ex_aload_n ok_X12_stopped (mi 82 rfl) rfl ?_
                refine ex_getRx ok_X12_stopped (mi 83 rfl) rfl rfl (fk (MI_s J194) 0 rfl) (fr (MI_s J194) 30 rfl) (fk (MI_s J194) 31 rfl) (by decide) ?_
                refine ex_sipush ok_X12_stopped (mi 84 rfl) ?_
                refine ex_iload_n ok_X12_stopped (mi 85 rfl) rfl ?_
                refine ex_imul ok_X12_stopped (mi 86 rfl) ?_
                refine ex_top (w := (nI (300 * a0))) (nI_mulc rfl) ?_
                refine ex_aload_n ok_X12_stopped (mi 87 rfl) rfl ?_
                refine ex_iload_n ok_X12_stopped (mi 88 rfl) rfl ?_
                refine ex_iload_n ok_X12_stopped (mi 89 rfl) rfl ?_
                refine sf_Vp (As := [_, _]) ok_X12_stopped (mi 90 rfl) rfl (s_entryRound hst (MI_s J194) (m := m) (by omega) (by omega) (by omega) (mk110_0.2.2.2.2.2.2.2.2.2.1 (by decide))) rfl (fk (MI_s J194) 0 rfl) rfl rfl (by decide) (by decide) (Nat.le_of_ble_eq_true rfl) (by decide) (fun z347 p348 => ?_)
                obtain ⟨v351, hv351, rfl⟩ := p348
                refine ex_iadd ok_X12_stopped (mi 91 rfl) ?_
                refine ex_top (w := (nI (300 * a0 + v351))) (nI_add _ _) ?_
                refine ex_aload_n ok_X12_stopped (mi 92 rfl) rfl ?_
                refine ex_iload_n ok_X12_stopped (mi 93 rfl) rfl ?_
                refine ex_iload_n ok_X12_stopped (mi 94 rfl) rfl ?_
                refine sf_Vp (As := [_, _]) ok_X12_stopped (mi 95 rfl) rfl (s_entryGroup hst (MI_s J194) (m := m) (by omega) (by omega) (by omega)) rfl (fk (MI_s J194) 0 rfl) rfl rfl (by decide) (by decide) (Nat.le_of_ble_eq_true rfl) (by decide) (fun z352 p353 => ?_)
                obtain ⟨v356, rfl⟩ := p353
                refine mf_A J194 ok_X12_stopped (mi 96 rfl) (fk (MI_s J194) 31 rfl) (fn (MI_s J194) 31 rfl) rfl (by omega) (by decide) (by decide) (by decide) (by decide) (fun g357 J358 K359 => ?_)
                have mk360 := KK_mk K359 mk110_0
                refine ex_iincx (w := (nI (k110 + 1))) ok_X12_stopped (mi 97 rfl) rfl (nI_1 _) ?_
                refine ex_goto (tgt := 110) ok_X12_stopped (mi 98 rfl) rfl ?_
                exact ex_ls (ls' := [(0, .ref y), (1, .int (nI (a0))), (2, .int (nI (a1))), (3, .int (nI (k110 + 1)))]) ⟨rfl, rfl, rfl, rfl, trivial⟩ (ih110 (k110 + 1) (by omega) g357 J358 mk360)
          exact ex_ls (ls' := [(0, .ref y), (1, .int (nI (a0))), (2, .int (nI (a1))), (3, .int (nI 0))]) ⟨rfl, rfl, rfl, rfl, trivial⟩ (lp110 (300 - 0) (0) (by omega) g189 J190 mk192)
      · skip
        refine ex_vret ok_X12_stopped (mi 30 rfl) rfl ?_
        exact ⟨_, rfl, rfl, I⟩
theorem s_X12_seedAt {G : GE} (hst : (ge_l G).stackTraces = false) {y c : Nat} {D : UT} {R : Nat → Prop} {g : GT} (I : MI y D c R g) {a0 : Nat} (ha0 : a0 < 9) {a1 : Nat} (ha1 : a1 < 402) {m : Nat} (hmk : MK y g a1 18 m) : ex_M G 2 0 0 my_X12_seedAt [.ref y, .int (nI (a0)), .int (nI (a1))] g (SM y D c R pN) := by
  refine ex_M_of ok_X12_seedAt cw_X12_seedAt rfl hst (Nat.le_of_ble_eq_true rfl) ?_
  have hm3 : m < 301 := hmk.2.2.2.2.2.2.2.1
  refine ex_aload_n ok_X12_seedAt (mi 0 rfl) rfl ?_
  refine ex_getRx ok_X12_seedAt (mi 1 rfl) rfl rfl (fk (MI_s I) 0 rfl) (fr (MI_s I) 52 rfl) (fk (MI_s I) 53 rfl) (by decide) ?_
  refine ex_iconst ok_X12_seedAt (mi 2 rfl) ?_
  refine ex_iload_n ok_X12_seedAt (mi 3 rfl) rfl ?_
  refine ex_imul ok_X12_seedAt (mi 4 rfl) ?_
  refine ex_top (w := (nI (3 * a1))) (nI_mulc rfl) ?_
  refine sm_iald ok_X12_seedAt (mi 5 rfl) (fk (MI_s I) 53 rfl) (fn (MI_s I) 53 rfl) rfl (by omega) (by decide) ?_
  refine ex_gen (fun w1 => ?_)
  refine ex_istore_n ok_X12_seedAt (mi 6 rfl) ?_
  refine ex_aload_n ok_X12_seedAt (mi 7 rfl) rfl ?_
  refine ex_getRx ok_X12_seedAt (mi 8 rfl) rfl rfl (fk (MI_s I) 0 rfl) (fr (MI_s I) 33 rfl) (fk (MI_s I) 34 rfl) (by decide) ?_
  refine ex_iload_n ok_X12_seedAt (mi 9 rfl) rfl ?_
  refine sm_iald ok_X12_seedAt (mi 10 rfl) (fk (MI_s I) 34 rfl) (fn (MI_s I) 34 rfl) rfl (by omega) (by decide) ?_
  refine ex_gen (fun w2 => ?_)
  refine ex_if_eq (tgt := 67) ok_X12_seedAt (mi 11 rfl) rfl (fun h15 => ?_) (fun h15 => ?_)
  · skip
    refine ex_iconst ok_X12_seedAt (mi 41 rfl) ?_
    refine ex_goto (tgt := 72) ok_X12_seedAt (mi 42 rfl) rfl ?_
    refine ex_istore ok_X12_seedAt (mi 44 rfl) ?_
    refine ex_iload ok_X12_seedAt (mi 45 rfl) rfl ?_
    refine ex_if_ne (tgt := 80) ok_X12_seedAt (mi 46 rfl) rfl (fun _ => ?_) (fun hn => absurd hn (by decide))
    refine ex_aload_n ok_X12_seedAt (mi 48 rfl) rfl ?_
    refine ex_getRx ok_X12_seedAt (mi 49 rfl) rfl rfl (fk (MI_s I) 0 rfl) (fr (MI_s I) 33 rfl) (fk (MI_s I) 34 rfl) (by decide) ?_
    refine ex_iload_n ok_X12_seedAt (mi 50 rfl) rfl ?_
    refine ex_iconst ok_X12_seedAt (mi 51 rfl) ?_
    refine mf_A I ok_X12_seedAt (mi 52 rfl) (fk (MI_s I) 34 rfl) (fn (MI_s I) 34 rfl) rfl (by omega) (by decide) (by decide) (by decide) (by decide) (fun g3 J4 K5 => ?_)
    have mk6 := KK_mk K5 hmk
    refine ex_aload_n ok_X12_seedAt (mi 53 rfl) rfl ?_
    refine ex_getRx ok_X12_seedAt (mi 54 rfl) rfl rfl (fk (MI_s J4) 0 rfl) (fr (MI_s J4) 34 rfl) (fk (MI_s J4) 35 rfl) (by decide) ?_
    refine ex_iload_n ok_X12_seedAt (mi 55 rfl) rfl ?_
    refine ex_iload_n ok_X12_seedAt (mi 56 rfl) rfl ?_
    refine mf_A J4 ok_X12_seedAt (mi 57 rfl) (fk (MI_s J4) 35 rfl) (fn (MI_s J4) 35 rfl) rfl (by omega) (by decide) (by decide) (by decide) (by decide) (fun g7 J8 K9 => ?_)
    have mk10 := KK_mk K9 mk6
    refine ex_aload_n ok_X12_seedAt (mi 58 rfl) rfl ?_
    refine ex_getRx ok_X12_seedAt (mi 59 rfl) rfl rfl (fk (MI_s J8) 0 rfl) (fr (MI_s J8) 35 rfl) (fk (MI_s J8) 36 rfl) (by decide) ?_
    refine ex_iload_n ok_X12_seedAt (mi 60 rfl) rfl ?_
    refine ex_aload_n ok_X12_seedAt (mi 61 rfl) rfl ?_
    refine ex_getRx ok_X12_seedAt (mi 62 rfl) rfl rfl (fk (MI_s J8) 0 rfl) (fr (MI_s J8) 52 rfl) (fk (MI_s J8) 53 rfl) (by decide) ?_
    refine ex_iconst ok_X12_seedAt (mi 63 rfl) ?_
    refine ex_iload_n ok_X12_seedAt (mi 64 rfl) rfl ?_
    refine ex_imul ok_X12_seedAt (mi 65 rfl) ?_
    refine ex_top (w := (nI (3 * a1))) (nI_mulc rfl) ?_
    refine ex_iconst ok_X12_seedAt (mi 66 rfl) ?_
    refine ex_iadd ok_X12_seedAt (mi 67 rfl) ?_
    refine ex_top (w := (nI (3 * a1 + 1))) (nI_add _ 1) ?_
    refine sm_iald ok_X12_seedAt (mi 68 rfl) (fk (MI_s J8) 53 rfl) (fn (MI_s J8) 53 rfl) rfl (by omega) (by decide) ?_
    obtain ⟨v11, hv11, ev11⟩ := vp_in_of (n := 512) (vb_in mk10.2.2.2.2.1 (by decide)) (by decide)
    refine ex_top (w := nI v11) ev11 ?_
    refine mf_B J8 ok_X12_seedAt (mi 69 rfl) (fk (MI_s J8) 36 rfl) (fn (MI_s J8) 36 rfl) rfl (by omega) (by decide) (B := 512) (by decide) (by decide) (by decide) (vp_in_nI (N := 512) (by omega) (by decide)) (fun g12 J13 K14 => ?_)
    have mk15 := KK_mk K14 mk10
    refine ex_aload_n ok_X12_seedAt (mi 70 rfl) rfl ?_
    refine ex_getRx ok_X12_seedAt (mi 71 rfl) rfl rfl (fk (MI_s J13) 0 rfl) (fr (MI_s J13) 36 rfl) (fk (MI_s J13) 37 rfl) (by decide) ?_
    refine ex_iload_n ok_X12_seedAt (mi 72 rfl) rfl ?_
    refine ex_aload_n ok_X12_seedAt (mi 73 rfl) rfl ?_
    refine ex_getRx ok_X12_seedAt (mi 74 rfl) rfl rfl (fk (MI_s J13) 0 rfl) (fr (MI_s J13) 52 rfl) (fk (MI_s J13) 53 rfl) (by decide) ?_
    refine ex_iconst ok_X12_seedAt (mi 75 rfl) ?_
    refine ex_iload_n ok_X12_seedAt (mi 76 rfl) rfl ?_
    refine ex_imul ok_X12_seedAt (mi 77 rfl) ?_
    refine ex_top (w := (nI (3 * a1))) (nI_mulc rfl) ?_
    refine ex_iconst ok_X12_seedAt (mi 78 rfl) ?_
    refine ex_iadd ok_X12_seedAt (mi 79 rfl) ?_
    refine ex_top (w := (nI (3 * a1 + 2))) (nI_add _ 2) ?_
    refine sm_iald ok_X12_seedAt (mi 80 rfl) (fk (MI_s J13) 53 rfl) (fn (MI_s J13) 53 rfl) rfl (by omega) (by decide) ?_
    obtain ⟨v16, hv16, ev16⟩ := vp_in_of (n := 300) (vb_in mk15.2.2.2.2.2.1 (by decide)) (by decide)
    refine ex_top (w := nI v16) ev16 ?_
    refine mf_B J13 ok_X12_seedAt (mi 81 rfl) (fk (MI_s J13) 37 rfl) (fn (MI_s J13) 37 rfl) rfl (by omega) (by decide) (B := 300) (by decide) (by decide) (by decide) (vp_in_nI (N := 300) (by omega) (by decide)) (fun g17 J18 K19 => ?_)
    have mk20 := KK_mk K19 mk15
    refine ex_iconst ok_X12_seedAt (mi 82 rfl) ?_
    refine ex_istore ok_X12_seedAt (mi 83 rfl) ?_
    have lp129 : ∀ n129 k129 : Nat, k129 + n129 = 300 → ∀ (g21 : GT), MI y D c R g21 → MK y g21 a1 18 m → ex_W G 2 0 0 M_X12_seedAt 129 [(0, .ref y), (1, .int (nI (a0))), (2, .int (nI (a1))), (3, .int w1), (4, .int (nI 1)), (5, .int (nI (k129)))] [] g21 (SM y D c R pN) := by
      intro n129
      induction n129 with
      | zero =>
        intro k129 he129  g21 J22 mk129_0
        obtain rfl : k129 = 300 := by omega
        refine ex_iload ok_X12_seedAt (mi 84 rfl) rfl ?_
        refine ex_sipush ok_X12_seedAt (mi 85 rfl) ?_
        refine ex_icmp_ge (tgt := 157) ok_X12_seedAt (mi 86 rfl) rfl (fun _ => ?_) (fun hn => absurd (by decide) hn)
        refine ex_iconst ok_X12_seedAt (mi 98 rfl) ?_
        refine ex_istore ok_X12_seedAt (mi 99 rfl) ?_
        have lp160 : ∀ n160 k160 : Nat, k160 + n160 = 300 → ∀ (g23 : GT), MI y D c R g23 → MK y g23 a1 18 m → ex_W G 2 0 0 M_X12_seedAt 160 [(0, .ref y), (1, .int (nI (a0))), (2, .int (nI (a1))), (3, .int w1), (4, .int (nI 1)), (5, .int (nI (k160)))] [] g23 (SM y D c R pN) := by
          intro n160
          induction n160 with
          | zero =>
            intro k160 he160  g23 J24 mk160_0
            obtain rfl : k160 = 300 := by omega
            refine ex_iload ok_X12_seedAt (mi 100 rfl) rfl ?_
            refine ex_aload_n ok_X12_seedAt (mi 101 rfl) rfl ?_
            refine ex_getRx ok_X12_seedAt (mi 102 rfl) rfl rfl (fk (MI_s J24) 0 rfl) (fr (MI_s J24) 53 rfl) (fk (MI_s J24) 54 rfl) (by decide) ?_
            refine ex_iload_n ok_X12_seedAt (mi 103 rfl) rfl ?_
            refine sm_iald ok_X12_seedAt (mi 104 rfl) (fk (MI_s J24) 54 rfl) (fn (MI_s J24) 54 rfl) rfl (by omega) (by decide) ?_
            refine ex_top (w := nI m) mk160_0.2.2.2.2.2.2.2.2.1 ?_
            refine ex_icmp_ge (tgt := 202) ok_X12_seedAt (mi 105 rfl) rfl (fun _ => ?_) (fun hn => absurd (nI_le (b := 300) (a := m) (by omega) (by omega)) hn)
            refine ex_aload_n ok_X12_seedAt (mi 123 rfl) rfl ?_
            refine ex_getRx ok_X12_seedAt (mi 124 rfl) rfl rfl (fk (MI_s J24) 0 rfl) (fr (MI_s J24) 38 rfl) (fk (MI_s J24) 39 rfl) (by decide) ?_
            refine ex_iload_n ok_X12_seedAt (mi 125 rfl) rfl ?_
            refine ex_iconst ok_X12_seedAt (mi 126 rfl) ?_
            refine mf_A J24 ok_X12_seedAt (mi 127 rfl) (fk (MI_s J24) 39 rfl) (fn (MI_s J24) 39 rfl) rfl (by omega) (by decide) (by decide) (by decide) (by decide) (fun g25 J26 K27 => ?_)
            have mk28 := KK_mk K27 mk160_0
            refine ex_aload_n ok_X12_seedAt (mi 128 rfl) rfl ?_
            refine ex_getRx ok_X12_seedAt (mi 129 rfl) rfl rfl (fk (MI_s J26) 0 rfl) (fr (MI_s J26) 39 rfl) (fk (MI_s J26) 40 rfl) (by decide) ?_
            refine ex_iload_n ok_X12_seedAt (mi 130 rfl) rfl ?_
            refine ex_iconst ok_X12_seedAt (mi 131 rfl) ?_
            refine mf_A J26 ok_X12_seedAt (mi 132 rfl) (fk (MI_s J26) 40 rfl) (fn (MI_s J26) 40 rfl) rfl (by omega) (by decide) (by decide) (by decide) (by decide) (fun g29 J30 K31 => ?_)
            have mk32 := KK_mk K31 mk28
            refine ex_aload_n ok_X12_seedAt (mi 133 rfl) rfl ?_
            refine ex_getRx ok_X12_seedAt (mi 134 rfl) rfl rfl (fk (MI_s J30) 0 rfl) (fr (MI_s J30) 40 rfl) (fk (MI_s J30) 41 rfl) (by decide) ?_
            refine ex_iload_n ok_X12_seedAt (mi 135 rfl) rfl ?_
            refine ex_iconst ok_X12_seedAt (mi 136 rfl) ?_
            refine mf_B J30 ok_X12_seedAt (mi 137 rfl) (fk (MI_s J30) 41 rfl) (fn (MI_s J30) 41 rfl) rfl (by omega) (by decide) (B := 512) (by decide) (by decide) (by decide) (pk_in 0 512 (by decide)) (fun g33 J34 K35 => ?_)
            have mk36 := KK_mk K35 mk32
            refine ex_aload_n ok_X12_seedAt (mi 138 rfl) rfl ?_
            refine ex_getRx ok_X12_seedAt (mi 139 rfl) rfl rfl (fk (MI_s J34) 0 rfl) (fr (MI_s J34) 41 rfl) (fk (MI_s J34) 42 rfl) (by decide) ?_
            refine ex_iload_n ok_X12_seedAt (mi 140 rfl) rfl ?_
            refine ex_iconst ok_X12_seedAt (mi 141 rfl) ?_
            refine mf_B J34 ok_X12_seedAt (mi 142 rfl) (fk (MI_s J34) 42 rfl) (fn (MI_s J34) 42 rfl) rfl (by omega) (by decide) (B := 512) (by decide) (by decide) (by decide) (pk_in 0 512 (by decide)) (fun g37 J38 K39 => ?_)
            have mk40 := KK_mk K39 mk36
            refine ex_aload_n ok_X12_seedAt (mi 143 rfl) rfl ?_
            refine ex_bipush ok_X12_seedAt (mi 144 rfl) ?_
            refine ex_iload_n ok_X12_seedAt (mi 145 rfl) rfl ?_
            refine ex_aload_n ok_X12_seedAt (mi 146 rfl) rfl ?_
            refine ex_getRx ok_X12_seedAt (mi 147 rfl) rfl rfl (fk (MI_s J38) 0 rfl) (fr (MI_s J38) 50 rfl) (fk (MI_s J38) 51 rfl) (by decide) ?_
            refine ex_iload_n ok_X12_seedAt (mi 148 rfl) rfl ?_
            refine sm_iald ok_X12_seedAt (mi 149 rfl) (fk (MI_s J38) 51 rfl) (fn (MI_s J38) 51 rfl) rfl (by omega) (by decide) ?_
            obtain ⟨v41, hv41, ev41⟩ := vp_in_of (n := 3) (vb_in mk40.2.2.1 (by decide)) (by decide)
            refine ex_top (w := nI v41) ev41 ?_
            refine ex_iload_n ok_X12_seedAt (mi 150 rfl) rfl ?_
            refine ex_iconst ok_X12_seedAt (mi 151 rfl) ?_
            refine ex_iconst ok_X12_seedAt (mi 152 rfl) ?_
            refine sm_V (As := [_, _, _, _, _, _]) ok_X12_seedAt (mi 153 rfl) rfl (s_X12_lay hst J38 (κ := 19) (by decide) (Or.inl rfl) (Or.inr (vp_in_nI (N := 3) (by omega) (by decide))) (Or.inl rfl) (Or.inl rfl) (Or.inl rfl)) rfl (fk (MI_s J38) 0 rfl) rfl rfl (by decide) (by decide) (Nat.le_of_ble_eq_true rfl) (by decide) LV_no (fun z42 g44 p43 => ?_)
            obtain ⟨b46, eb46, hb46, J45, lb46⟩ := p43
            cases eb46
            refine ex_istore ok_X12_seedAt (mi 154 rfl) ?_
            refine ex_vret ok_X12_seedAt (mi 155 rfl) rfl ?_
            exact ⟨_, rfl, rfl, J45⟩
          | succ n160 ih160 =>
            intro k160 he160  g23 J24 mk160_0
            have hr160 : k160 < 300 := by omega
            refine ex_iload ok_X12_seedAt (mi 100 rfl) rfl ?_
            refine ex_aload_n ok_X12_seedAt (mi 101 rfl) rfl ?_
            refine ex_getRx ok_X12_seedAt (mi 102 rfl) rfl rfl (fk (MI_s J24) 0 rfl) (fr (MI_s J24) 53 rfl) (fk (MI_s J24) 54 rfl) (by decide) ?_
            refine ex_iload_n ok_X12_seedAt (mi 103 rfl) rfl ?_
            refine sm_iald ok_X12_seedAt (mi 104 rfl) (fk (MI_s J24) 54 rfl) (fn (MI_s J24) 54 rfl) rfl (by omega) (by decide) ?_
            refine ex_top (w := nI m) mk160_0.2.2.2.2.2.2.2.2.1 ?_
            refine ex_icmp_ge (tgt := 202) ok_X12_seedAt (mi 105 rfl) rfl (fun h168 => ?_) (fun h168 => ?_)
            · skip
              refine ex_aload_n ok_X12_seedAt (mi 123 rfl) rfl ?_
              refine ex_getRx ok_X12_seedAt (mi 124 rfl) rfl rfl (fk (MI_s J24) 0 rfl) (fr (MI_s J24) 38 rfl) (fk (MI_s J24) 39 rfl) (by decide) ?_
              refine ex_iload_n ok_X12_seedAt (mi 125 rfl) rfl ?_
              refine ex_iconst ok_X12_seedAt (mi 126 rfl) ?_
              refine mf_A J24 ok_X12_seedAt (mi 127 rfl) (fk (MI_s J24) 39 rfl) (fn (MI_s J24) 39 rfl) rfl (by omega) (by decide) (by decide) (by decide) (by decide) (fun g47 J48 K49 => ?_)
              have mk50 := KK_mk K49 mk160_0
              refine ex_aload_n ok_X12_seedAt (mi 128 rfl) rfl ?_
              refine ex_getRx ok_X12_seedAt (mi 129 rfl) rfl rfl (fk (MI_s J48) 0 rfl) (fr (MI_s J48) 39 rfl) (fk (MI_s J48) 40 rfl) (by decide) ?_
              refine ex_iload_n ok_X12_seedAt (mi 130 rfl) rfl ?_
              refine ex_iconst ok_X12_seedAt (mi 131 rfl) ?_
              refine mf_A J48 ok_X12_seedAt (mi 132 rfl) (fk (MI_s J48) 40 rfl) (fn (MI_s J48) 40 rfl) rfl (by omega) (by decide) (by decide) (by decide) (by decide) (fun g51 J52 K53 => ?_)
              have mk54 := KK_mk K53 mk50
              refine ex_aload_n ok_X12_seedAt (mi 133 rfl) rfl ?_
              refine ex_getRx ok_X12_seedAt (mi 134 rfl) rfl rfl (fk (MI_s J52) 0 rfl) (fr (MI_s J52) 40 rfl) (fk (MI_s J52) 41 rfl) (by decide) ?_
              refine ex_iload_n ok_X12_seedAt (mi 135 rfl) rfl ?_
              refine ex_iconst ok_X12_seedAt (mi 136 rfl) ?_
              refine mf_B J52 ok_X12_seedAt (mi 137 rfl) (fk (MI_s J52) 41 rfl) (fn (MI_s J52) 41 rfl) rfl (by omega) (by decide) (B := 512) (by decide) (by decide) (by decide) (pk_in 0 512 (by decide)) (fun g55 J56 K57 => ?_)
              have mk58 := KK_mk K57 mk54
              refine ex_aload_n ok_X12_seedAt (mi 138 rfl) rfl ?_
              refine ex_getRx ok_X12_seedAt (mi 139 rfl) rfl rfl (fk (MI_s J56) 0 rfl) (fr (MI_s J56) 41 rfl) (fk (MI_s J56) 42 rfl) (by decide) ?_
              refine ex_iload_n ok_X12_seedAt (mi 140 rfl) rfl ?_
              refine ex_iconst ok_X12_seedAt (mi 141 rfl) ?_
              refine mf_B J56 ok_X12_seedAt (mi 142 rfl) (fk (MI_s J56) 42 rfl) (fn (MI_s J56) 42 rfl) rfl (by omega) (by decide) (B := 512) (by decide) (by decide) (by decide) (pk_in 0 512 (by decide)) (fun g59 J60 K61 => ?_)
              have mk62 := KK_mk K61 mk58
              refine ex_aload_n ok_X12_seedAt (mi 143 rfl) rfl ?_
              refine ex_bipush ok_X12_seedAt (mi 144 rfl) ?_
              refine ex_iload_n ok_X12_seedAt (mi 145 rfl) rfl ?_
              refine ex_aload_n ok_X12_seedAt (mi 146 rfl) rfl ?_
              refine ex_getRx ok_X12_seedAt (mi 147 rfl) rfl rfl (fk (MI_s J60) 0 rfl) (fr (MI_s J60) 50 rfl) (fk (MI_s J60) 51 rfl) (by decide) ?_
              refine ex_iload_n ok_X12_seedAt (mi 148 rfl) rfl ?_
              refine sm_iald ok_X12_seedAt (mi 149 rfl) (fk (MI_s J60) 51 rfl) (fn (MI_s J60) 51 rfl) rfl (by omega) (by decide) ?_
              obtain ⟨v63, hv63, ev63⟩ := vp_in_of (n := 3) (vb_in mk62.2.2.1 (by decide)) (by decide)
              refine ex_top (w := nI v63) ev63 ?_
              refine ex_iload_n ok_X12_seedAt (mi 150 rfl) rfl ?_
              refine ex_iconst ok_X12_seedAt (mi 151 rfl) ?_
              refine ex_iconst ok_X12_seedAt (mi 152 rfl) ?_
              refine sm_V (As := [_, _, _, _, _, _]) ok_X12_seedAt (mi 153 rfl) rfl (s_X12_lay hst J60 (κ := 19) (by decide) (Or.inl rfl) (Or.inr (vp_in_nI (N := 3) (by omega) (by decide))) (Or.inl rfl) (Or.inl rfl) (Or.inl rfl)) rfl (fk (MI_s J60) 0 rfl) rfl rfl (by decide) (by decide) (Nat.le_of_ble_eq_true rfl) (by decide) LV_no (fun z64 g66 p65 => ?_)
              obtain ⟨b68, eb68, hb68, J67, lb68⟩ := p65
              cases eb68
              refine ex_istore ok_X12_seedAt (mi 154 rfl) ?_
              refine ex_vret ok_X12_seedAt (mi 155 rfl) rfl ?_
              exact ⟨_, rfl, rfl, J67⟩
            · skip
              have l168 : k160 < m := Nat.lt_of_not_le (fun q => h168 (nI_le q (by omega)))
              refine ex_aload_n ok_X12_seedAt (mi 106 rfl) rfl ?_
              refine ex_getRx ok_X12_seedAt (mi 107 rfl) rfl rfl (fk (MI_s J24) 0 rfl) (fr (MI_s J24) 37 rfl) (fk (MI_s J24) 38 rfl) (by decide) ?_
              refine ex_sipush ok_X12_seedAt (mi 108 rfl) ?_
              refine ex_iload_n ok_X12_seedAt (mi 109 rfl) rfl ?_
              refine ex_imul ok_X12_seedAt (mi 110 rfl) ?_
              refine ex_top (w := (nI (300 * a0))) (nI_mulc rfl) ?_
              refine ex_aload_n ok_X12_seedAt (mi 111 rfl) rfl ?_
              refine ex_iload_n ok_X12_seedAt (mi 112 rfl) rfl ?_
              refine ex_iload ok_X12_seedAt (mi 113 rfl) rfl ?_
              refine sf_Vp (As := [_, _]) ok_X12_seedAt (mi 114 rfl) rfl (s_entryRound hst (MI_s J24) (m := m) (by omega) (by omega) (by omega) (mk160_0.2.2.2.2.2.2.2.2.2.1 (by decide))) rfl (fk (MI_s J24) 0 rfl) rfl rfl (by decide) (by decide) (Nat.le_of_ble_eq_true rfl) (by decide) (fun z69 p70 => ?_)
              obtain ⟨v73, hv73, rfl⟩ := p70
              refine ex_iadd ok_X12_seedAt (mi 115 rfl) ?_
              refine ex_top (w := (nI (300 * a0 + v73))) (nI_add _ _) ?_
              refine ex_aload_n ok_X12_seedAt (mi 116 rfl) rfl ?_
              refine ex_iload_n ok_X12_seedAt (mi 117 rfl) rfl ?_
              refine ex_iload ok_X12_seedAt (mi 118 rfl) rfl ?_
              refine sf_Vp (As := [_, _]) ok_X12_seedAt (mi 119 rfl) rfl (s_entryGroup hst (MI_s J24) (m := m) (by omega) (by omega) (by omega)) rfl (fk (MI_s J24) 0 rfl) rfl rfl (by decide) (by decide) (Nat.le_of_ble_eq_true rfl) (by decide) (fun z74 p75 => ?_)
              obtain ⟨v78, rfl⟩ := p75
              refine mf_A J24 ok_X12_seedAt (mi 120 rfl) (fk (MI_s J24) 38 rfl) (fn (MI_s J24) 38 rfl) rfl (by omega) (by decide) (by decide) (by decide) (by decide) (fun g79 J80 K81 => ?_)
              have mk82 := KK_mk K81 mk160_0
              refine ex_iincx (w := (nI (k160 + 1))) ok_X12_seedAt (mi 121 rfl) rfl (nI_1 _) ?_
              refine ex_goto (tgt := 160) ok_X12_seedAt (mi 122 rfl) rfl ?_
              exact ex_ls (ls' := [(0, .ref y), (1, .int (nI (a0))), (2, .int (nI (a1))), (3, .int w1), (4, .int (nI 1)), (5, .int (nI (k160 + 1)))]) ⟨rfl, rfl, rfl, rfl, rfl, rfl, trivial⟩ (ih160 (k160 + 1) (by omega) g79 J80 mk82)
        exact ex_ls (ls' := [(0, .ref y), (1, .int (nI (a0))), (2, .int (nI (a1))), (3, .int w1), (4, .int (nI 1)), (5, .int (nI 0))]) ⟨rfl, rfl, rfl, rfl, rfl, rfl, trivial⟩ (lp160 (300 - 0) (0) (by omega) g21 J22 mk129_0)
      | succ n129 ih129 =>
        intro k129 he129  g21 J22 mk129_0
        have hr129 : k129 < 300 := by omega
        refine ex_iload ok_X12_seedAt (mi 84 rfl) rfl ?_
        refine ex_sipush ok_X12_seedAt (mi 85 rfl) ?_
        refine ex_icmp_ge (tgt := 157) ok_X12_seedAt (mi 86 rfl) rfl (fun hn => absurd hn (nI_ge (b := 300) hr129 (by decide))) (fun _ => ?_)
        refine ex_aload_n ok_X12_seedAt (mi 87 rfl) rfl ?_
        refine ex_getRx ok_X12_seedAt (mi 88 rfl) rfl rfl (fk (MI_s J22) 0 rfl) (fr (MI_s J22) 37 rfl) (fk (MI_s J22) 38 rfl) (by decide) ?_
        refine ex_sipush ok_X12_seedAt (mi 89 rfl) ?_
        refine ex_iload_n ok_X12_seedAt (mi 90 rfl) rfl ?_
        refine ex_imul ok_X12_seedAt (mi 91 rfl) ?_
        refine ex_top (w := (nI (300 * a0))) (nI_mulc rfl) ?_
        refine ex_iload ok_X12_seedAt (mi 92 rfl) rfl ?_
        refine ex_iadd ok_X12_seedAt (mi 93 rfl) ?_
        refine ex_top (w := (nI (300 * a0 + k129))) (nI_add _ _) ?_
        refine ex_iconst ok_X12_seedAt (mi 94 rfl) ?_
        refine mf_A J22 ok_X12_seedAt (mi 95 rfl) (fk (MI_s J22) 38 rfl) (fn (MI_s J22) 38 rfl) rfl (by omega) (by decide) (by decide) (by decide) (by decide) (fun g83 J84 K85 => ?_)
        have mk86 := KK_mk K85 mk129_0
        refine ex_iincx (w := (nI (k129 + 1))) ok_X12_seedAt (mi 96 rfl) rfl (nI_1 _) ?_
        refine ex_goto (tgt := 129) ok_X12_seedAt (mi 97 rfl) rfl ?_
        exact ex_ls (ls' := [(0, .ref y), (1, .int (nI (a0))), (2, .int (nI (a1))), (3, .int w1), (4, .int (nI 1)), (5, .int (nI (k129 + 1)))]) ⟨rfl, rfl, rfl, rfl, rfl, rfl, trivial⟩ (ih129 (k129 + 1) (by omega) g83 J84 mk86)
    exact ex_ls (ls' := [(0, .ref y), (1, .int (nI (a0))), (2, .int (nI (a1))), (3, .int w1), (4, .int (nI 1)), (5, .int (nI 0))]) ⟨rfl, rfl, rfl, rfl, rfl, rfl, trivial⟩ (lp129 (300 - 0) (0) (by omega) g17 J18 mk20)
  · skip
    refine ex_aload_n ok_X12_seedAt (mi 12 rfl) rfl ?_
    refine ex_getRx ok_X12_seedAt (mi 13 rfl) rfl rfl (fk (MI_s I) 0 rfl) (fr (MI_s I) 33 rfl) (fk (MI_s I) 34 rfl) (by decide) ?_
    refine ex_iload_n ok_X12_seedAt (mi 14 rfl) rfl ?_
    refine sm_iald ok_X12_seedAt (mi 15 rfl) (fk (MI_s I) 34 rfl) (fn (MI_s I) 34 rfl) rfl (by omega) (by decide) ?_
    refine ex_gen (fun w87 => ?_)
    refine ex_iconst ok_X12_seedAt (mi 16 rfl) ?_
    refine ex_icmp_ne (tgt := 38) ok_X12_seedAt (mi 17 rfl) rfl (fun h25 => ?_) (fun h25 => ?_)
    · skip
      refine ex_aload_n ok_X12_seedAt (mi 24 rfl) rfl ?_
      refine ex_getRx ok_X12_seedAt (mi 25 rfl) rfl rfl (fk (MI_s I) 0 rfl) (fr (MI_s I) 33 rfl) (fk (MI_s I) 34 rfl) (by decide) ?_
      refine ex_iload_n ok_X12_seedAt (mi 26 rfl) rfl ?_
      refine sm_iald ok_X12_seedAt (mi 27 rfl) (fk (MI_s I) 34 rfl) (fn (MI_s I) 34 rfl) rfl (by omega) (by decide) ?_
      refine ex_gen (fun w88 => ?_)
      refine ex_iconst ok_X12_seedAt (mi 28 rfl) ?_
      refine ex_icmp_ne (tgt := 71) ok_X12_seedAt (mi 29 rfl) rfl (fun h45 => ?_) (fun h45 => ?_)
      · skip
        refine ex_iconst ok_X12_seedAt (mi 43 rfl) ?_
        refine ex_istore ok_X12_seedAt (mi 44 rfl) ?_
        refine ex_iload ok_X12_seedAt (mi 45 rfl) rfl ?_
        refine ex_if_ne (tgt := 80) ok_X12_seedAt (mi 46 rfl) rfl (fun hn => absurd (by decide) hn) (fun _ => ?_)
        refine ex_vret ok_X12_seedAt (mi 47 rfl) rfl ?_
        exact ⟨_, rfl, rfl, I⟩
      · skip
        refine ex_aload_n ok_X12_seedAt (mi 30 rfl) rfl ?_
        refine ex_getRx ok_X12_seedAt (mi 31 rfl) rfl rfl (fk (MI_s I) 0 rfl) (fr (MI_s I) 41 rfl) (fk (MI_s I) 42 rfl) (by decide) ?_
        refine ex_iload_n ok_X12_seedAt (mi 32 rfl) rfl ?_
        refine sm_iald ok_X12_seedAt (mi 33 rfl) (fk (MI_s I) 42 rfl) (fn (MI_s I) 42 rfl) rfl (by omega) (by decide) ?_
        obtain ⟨v89, hv89, ev89⟩ := vp_in_of (n := 512) (MI_bd I 12 rfl (i := a0) (by omega)) (by decide)
        refine ex_top (w := nI v89) ev89 ?_
        refine ex_if_eq (tgt := 71) ok_X12_seedAt (mi 34 rfl) rfl (fun h54 => ?_) (fun h54 => ?_)
        · skip
          refine ex_iconst ok_X12_seedAt (mi 43 rfl) ?_
          refine ex_istore ok_X12_seedAt (mi 44 rfl) ?_
          refine ex_iload ok_X12_seedAt (mi 45 rfl) rfl ?_
          refine ex_if_ne (tgt := 80) ok_X12_seedAt (mi 46 rfl) rfl (fun hn => absurd (by decide) hn) (fun _ => ?_)
          refine ex_vret ok_X12_seedAt (mi 47 rfl) rfl ?_
          exact ⟨_, rfl, rfl, I⟩
        · skip
          have n54 : v89 ≠ 0 := fun e => h54 (by rw [e]; rfl)
          refine ex_aload_n ok_X12_seedAt (mi 35 rfl) rfl ?_
          refine ex_getRx ok_X12_seedAt (mi 36 rfl) rfl rfl (fk (MI_s I) 0 rfl) (fr (MI_s I) 34 rfl) (fk (MI_s I) 35 rfl) (by decide) ?_
          refine ex_iload_n ok_X12_seedAt (mi 37 rfl) rfl ?_
          refine sm_iald ok_X12_seedAt (mi 38 rfl) (fk (MI_s I) 35 rfl) (fn (MI_s I) 35 rfl) rfl (by omega) (by decide) ?_
          refine ex_gen (fun w90 => ?_)
          refine ex_iload_n ok_X12_seedAt (mi 39 rfl) rfl ?_
          refine ex_icmp_ge (tgt := 71) ok_X12_seedAt (mi 40 rfl) rfl (fun h64 => ?_) (fun h64 => ?_)
          · skip
            refine ex_iconst ok_X12_seedAt (mi 43 rfl) ?_
            refine ex_istore ok_X12_seedAt (mi 44 rfl) ?_
            refine ex_iload ok_X12_seedAt (mi 45 rfl) rfl ?_
            refine ex_if_ne (tgt := 80) ok_X12_seedAt (mi 46 rfl) rfl (fun hn => absurd (by decide) hn) (fun _ => ?_)
            refine ex_vret ok_X12_seedAt (mi 47 rfl) rfl ?_
            exact ⟨_, rfl, rfl, I⟩
          · skip
            refine ex_iconst ok_X12_seedAt (mi 41 rfl) ?_
            refine ex_goto (tgt := 72) ok_X12_seedAt (mi 42 rfl) rfl ?_
            refine ex_istore ok_X12_seedAt (mi 44 rfl) ?_
            refine ex_iload ok_X12_seedAt (mi 45 rfl) rfl ?_
            refine ex_if_ne (tgt := 80) ok_X12_seedAt (mi 46 rfl) rfl (fun _ => ?_) (fun hn => absurd hn (by decide))
            refine ex_aload_n ok_X12_seedAt (mi 48 rfl) rfl ?_
            refine ex_getRx ok_X12_seedAt (mi 49 rfl) rfl rfl (fk (MI_s I) 0 rfl) (fr (MI_s I) 33 rfl) (fk (MI_s I) 34 rfl) (by decide) ?_
            refine ex_iload_n ok_X12_seedAt (mi 50 rfl) rfl ?_
            refine ex_iconst ok_X12_seedAt (mi 51 rfl) ?_
            refine mf_A I ok_X12_seedAt (mi 52 rfl) (fk (MI_s I) 34 rfl) (fn (MI_s I) 34 rfl) rfl (by omega) (by decide) (by decide) (by decide) (by decide) (fun g91 J92 K93 => ?_)
            have mk94 := KK_mk K93 hmk
            refine ex_aload_n ok_X12_seedAt (mi 53 rfl) rfl ?_
            refine ex_getRx ok_X12_seedAt (mi 54 rfl) rfl rfl (fk (MI_s J92) 0 rfl) (fr (MI_s J92) 34 rfl) (fk (MI_s J92) 35 rfl) (by decide) ?_
            refine ex_iload_n ok_X12_seedAt (mi 55 rfl) rfl ?_
            refine ex_iload_n ok_X12_seedAt (mi 56 rfl) rfl ?_
            refine mf_A J92 ok_X12_seedAt (mi 57 rfl) (fk (MI_s J92) 35 rfl) (fn (MI_s J92) 35 rfl) rfl (by omega) (by decide) (by decide) (by decide) (by decide) (fun g95 J96 K97 => ?_)
            have mk98 := KK_mk K97 mk94
            refine ex_aload_n ok_X12_seedAt (mi 58 rfl) rfl ?_
            refine ex_getRx ok_X12_seedAt (mi 59 rfl) rfl rfl (fk (MI_s J96) 0 rfl) (fr (MI_s J96) 35 rfl) (fk (MI_s J96) 36 rfl) (by decide) ?_
            refine ex_iload_n ok_X12_seedAt (mi 60 rfl) rfl ?_
            refine ex_aload_n ok_X12_seedAt (mi 61 rfl) rfl ?_
            refine ex_getRx ok_X12_seedAt (mi 62 rfl) rfl rfl (fk (MI_s J96) 0 rfl) (fr (MI_s J96) 52 rfl) (fk (MI_s J96) 53 rfl) (by decide) ?_
            refine ex_iconst ok_X12_seedAt (mi 63 rfl) ?_
            refine ex_iload_n ok_X12_seedAt (mi 64 rfl) rfl ?_
            refine ex_imul ok_X12_seedAt (mi 65 rfl) ?_
            refine ex_top (w := (nI (3 * a1))) (nI_mulc rfl) ?_
            refine ex_iconst ok_X12_seedAt (mi 66 rfl) ?_
            refine ex_iadd ok_X12_seedAt (mi 67 rfl) ?_
            refine ex_top (w := (nI (3 * a1 + 1))) (nI_add _ 1) ?_
            refine sm_iald ok_X12_seedAt (mi 68 rfl) (fk (MI_s J96) 53 rfl) (fn (MI_s J96) 53 rfl) rfl (by omega) (by decide) ?_
            obtain ⟨v99, hv99, ev99⟩ := vp_in_of (n := 512) (vb_in mk98.2.2.2.2.1 (by decide)) (by decide)
            refine ex_top (w := nI v99) ev99 ?_
            refine mf_B J96 ok_X12_seedAt (mi 69 rfl) (fk (MI_s J96) 36 rfl) (fn (MI_s J96) 36 rfl) rfl (by omega) (by decide) (B := 512) (by decide) (by decide) (by decide) (vp_in_nI (N := 512) (by omega) (by decide)) (fun g100 J101 K102 => ?_)
            have mk103 := KK_mk K102 mk98
            refine ex_aload_n ok_X12_seedAt (mi 70 rfl) rfl ?_
            refine ex_getRx ok_X12_seedAt (mi 71 rfl) rfl rfl (fk (MI_s J101) 0 rfl) (fr (MI_s J101) 36 rfl) (fk (MI_s J101) 37 rfl) (by decide) ?_
            refine ex_iload_n ok_X12_seedAt (mi 72 rfl) rfl ?_
            refine ex_aload_n ok_X12_seedAt (mi 73 rfl) rfl ?_
            refine ex_getRx ok_X12_seedAt (mi 74 rfl) rfl rfl (fk (MI_s J101) 0 rfl) (fr (MI_s J101) 52 rfl) (fk (MI_s J101) 53 rfl) (by decide) ?_
            refine ex_iconst ok_X12_seedAt (mi 75 rfl) ?_
            refine ex_iload_n ok_X12_seedAt (mi 76 rfl) rfl ?_
            refine ex_imul ok_X12_seedAt (mi 77 rfl) ?_
            refine ex_top (w := (nI (3 * a1))) (nI_mulc rfl) ?_
            refine ex_iconst ok_X12_seedAt (mi 78 rfl) ?_
            refine ex_iadd ok_X12_seedAt (mi 79 rfl) ?_
            refine ex_top (w := (nI (3 * a1 + 2))) (nI_add _ 2) ?_
            refine sm_iald ok_X12_seedAt (mi 80 rfl) (fk (MI_s J101) 53 rfl) (fn (MI_s J101) 53 rfl) rfl (by omega) (by decide) ?_
            obtain ⟨v104, hv104, ev104⟩ := vp_in_of (n := 300) (vb_in mk103.2.2.2.2.2.1 (by decide)) (by decide)
            refine ex_top (w := nI v104) ev104 ?_
            refine mf_B J101 ok_X12_seedAt (mi 81 rfl) (fk (MI_s J101) 37 rfl) (fn (MI_s J101) 37 rfl) rfl (by omega) (by decide) (B := 300) (by decide) (by decide) (by decide) (vp_in_nI (N := 300) (by omega) (by decide)) (fun g105 J106 K107 => ?_)
            have mk108 := KK_mk K107 mk103
            refine ex_iconst ok_X12_seedAt (mi 82 rfl) ?_
            refine ex_istore ok_X12_seedAt (mi 83 rfl) ?_
            have lp129 : ∀ n129 k129 : Nat, k129 + n129 = 300 → ∀ (g109 : GT), MI y D c R g109 → MK y g109 a1 18 m → ex_W G 2 0 0 M_X12_seedAt 129 [(0, .ref y), (1, .int (nI (a0))), (2, .int (nI (a1))), (3, .int w1), (4, .int (nI 1)), (5, .int (nI (k129)))] [] g109 (SM y D c R pN) := by
              intro n129
              induction n129 with
              | zero =>
                intro k129 he129  g109 J110 mk129_0
                obtain rfl : k129 = 300 := by omega
                refine ex_iload ok_X12_seedAt (mi 84 rfl) rfl ?_
                refine ex_sipush ok_X12_seedAt (mi 85 rfl) ?_
                refine ex_icmp_ge (tgt := 157) ok_X12_seedAt (mi 86 rfl) rfl (fun _ => ?_) (fun hn => absurd (by decide) hn)
                refine ex_iconst ok_X12_seedAt (mi 98 rfl) ?_
                refine ex_istore ok_X12_seedAt (mi 99 rfl) ?_
                have lp160 : ∀ n160 k160 : Nat, k160 + n160 = 300 → ∀ (g111 : GT), MI y D c R g111 → MK y g111 a1 18 m → ex_W G 2 0 0 M_X12_seedAt 160 [(0, .ref y), (1, .int (nI (a0))), (2, .int (nI (a1))), (3, .int w1), (4, .int (nI 1)), (5, .int (nI (k160)))] [] g111 (SM y D c R pN) := by
                  intro n160
                  induction n160 with
                  | zero =>
                    intro k160 he160  g111 J112 mk160_0
                    obtain rfl : k160 = 300 := by omega
                    refine ex_iload ok_X12_seedAt (mi 100 rfl) rfl ?_
                    refine ex_aload_n ok_X12_seedAt (mi 101 rfl) rfl ?_
                    refine ex_getRx ok_X12_seedAt (mi 102 rfl) rfl rfl (fk (MI_s J112) 0 rfl) (fr (MI_s J112) 53 rfl) (fk (MI_s J112) 54 rfl) (by decide) ?_
                    refine ex_iload_n ok_X12_seedAt (mi 103 rfl) rfl ?_
                    refine sm_iald ok_X12_seedAt (mi 104 rfl) (fk (MI_s J112) 54 rfl) (fn (MI_s J112) 54 rfl) rfl (by omega) (by decide) ?_
                    refine ex_top (w := nI m) mk160_0.2.2.2.2.2.2.2.2.1 ?_
                    refine ex_icmp_ge (tgt := 202) ok_X12_seedAt (mi 105 rfl) rfl (fun _ => ?_) (fun hn => absurd (nI_le (b := 300) (a := m) (by omega) (by omega)) hn)
                    refine ex_aload_n ok_X12_seedAt (mi 123 rfl) rfl ?_
                    refine ex_getRx ok_X12_seedAt (mi 124 rfl) rfl rfl (fk (MI_s J112) 0 rfl) (fr (MI_s J112) 38 rfl) (fk (MI_s J112) 39 rfl) (by decide) ?_
                    refine ex_iload_n ok_X12_seedAt (mi 125 rfl) rfl ?_
                    refine ex_iconst ok_X12_seedAt (mi 126 rfl) ?_
                    refine mf_A J112 ok_X12_seedAt (mi 127 rfl) (fk (MI_s J112) 39 rfl) (fn (MI_s J112) 39 rfl) rfl (by omega) (by decide) (by decide) (by decide) (by decide) (fun g113 J114 K115 => ?_)
                    have mk116 := KK_mk K115 mk160_0
                    refine ex_aload_n ok_X12_seedAt (mi 128 rfl) rfl ?_
                    refine ex_getRx ok_X12_seedAt (mi 129 rfl) rfl rfl (fk (MI_s J114) 0 rfl) (fr (MI_s J114) 39 rfl) (fk (MI_s J114) 40 rfl) (by decide) ?_
                    refine ex_iload_n ok_X12_seedAt (mi 130 rfl) rfl ?_
                    refine ex_iconst ok_X12_seedAt (mi 131 rfl) ?_
                    refine mf_A J114 ok_X12_seedAt (mi 132 rfl) (fk (MI_s J114) 40 rfl) (fn (MI_s J114) 40 rfl) rfl (by omega) (by decide) (by decide) (by decide) (by decide) (fun g117 J118 K119 => ?_)
                    have mk120 := KK_mk K119 mk116
                    refine ex_aload_n ok_X12_seedAt (mi 133 rfl) rfl ?_
                    refine ex_getRx ok_X12_seedAt (mi 134 rfl) rfl rfl (fk (MI_s J118) 0 rfl) (fr (MI_s J118) 40 rfl) (fk (MI_s J118) 41 rfl) (by decide) ?_
                    refine ex_iload_n ok_X12_seedAt (mi 135 rfl) rfl ?_
                    refine ex_iconst ok_X12_seedAt (mi 136 rfl) ?_
                    refine mf_B J118 ok_X12_seedAt (mi 137 rfl) (fk (MI_s J118) 41 rfl) (fn (MI_s J118) 41 rfl) rfl (by omega) (by decide) (B := 512) (by decide) (by decide) (by decide) (pk_in 0 512 (by decide)) (fun g121 J122 K123 => ?_)
                    have mk124 := KK_mk K123 mk120
                    refine ex_aload_n ok_X12_seedAt (mi 138 rfl) rfl ?_
                    refine ex_getRx ok_X12_seedAt (mi 139 rfl) rfl rfl (fk (MI_s J122) 0 rfl) (fr (MI_s J122) 41 rfl) (fk (MI_s J122) 42 rfl) (by decide) ?_
                    refine ex_iload_n ok_X12_seedAt (mi 140 rfl) rfl ?_
                    refine ex_iconst ok_X12_seedAt (mi 141 rfl) ?_
                    refine mf_B J122 ok_X12_seedAt (mi 142 rfl) (fk (MI_s J122) 42 rfl) (fn (MI_s J122) 42 rfl) rfl (by omega) (by decide) (B := 512) (by decide) (by decide) (by decide) (pk_in 0 512 (by decide)) (fun g125 J126 K127 => ?_)
                    have mk128 := KK_mk K127 mk124
                    refine ex_aload_n ok_X12_seedAt (mi 143 rfl) rfl ?_
                    refine ex_bipush ok_X12_seedAt (mi 144 rfl) ?_
                    refine ex_iload_n ok_X12_seedAt (mi 145 rfl) rfl ?_
                    refine ex_aload_n ok_X12_seedAt (mi 146 rfl) rfl ?_
                    refine ex_getRx ok_X12_seedAt (mi 147 rfl) rfl rfl (fk (MI_s J126) 0 rfl) (fr (MI_s J126) 50 rfl) (fk (MI_s J126) 51 rfl) (by decide) ?_
                    refine ex_iload_n ok_X12_seedAt (mi 148 rfl) rfl ?_
                    refine sm_iald ok_X12_seedAt (mi 149 rfl) (fk (MI_s J126) 51 rfl) (fn (MI_s J126) 51 rfl) rfl (by omega) (by decide) ?_
                    obtain ⟨v129, hv129, ev129⟩ := vp_in_of (n := 3) (vb_in mk128.2.2.1 (by decide)) (by decide)
                    refine ex_top (w := nI v129) ev129 ?_
                    refine ex_iload_n ok_X12_seedAt (mi 150 rfl) rfl ?_
                    refine ex_iconst ok_X12_seedAt (mi 151 rfl) ?_
                    refine ex_iconst ok_X12_seedAt (mi 152 rfl) ?_
                    refine sm_V (As := [_, _, _, _, _, _]) ok_X12_seedAt (mi 153 rfl) rfl (s_X12_lay hst J126 (κ := 19) (by decide) (Or.inl rfl) (Or.inr (vp_in_nI (N := 3) (by omega) (by decide))) (Or.inl rfl) (Or.inl rfl) (Or.inl rfl)) rfl (fk (MI_s J126) 0 rfl) rfl rfl (by decide) (by decide) (Nat.le_of_ble_eq_true rfl) (by decide) LV_no (fun z130 g132 p131 => ?_)
                    obtain ⟨b134, eb134, hb134, J133, lb134⟩ := p131
                    cases eb134
                    refine ex_istore ok_X12_seedAt (mi 154 rfl) ?_
                    refine ex_vret ok_X12_seedAt (mi 155 rfl) rfl ?_
                    exact ⟨_, rfl, rfl, J133⟩
                  | succ n160 ih160 =>
                    intro k160 he160  g111 J112 mk160_0
                    have hr160 : k160 < 300 := by omega
                    refine ex_iload ok_X12_seedAt (mi 100 rfl) rfl ?_
                    refine ex_aload_n ok_X12_seedAt (mi 101 rfl) rfl ?_
                    refine ex_getRx ok_X12_seedAt (mi 102 rfl) rfl rfl (fk (MI_s J112) 0 rfl) (fr (MI_s J112) 53 rfl) (fk (MI_s J112) 54 rfl) (by decide) ?_
                    refine ex_iload_n ok_X12_seedAt (mi 103 rfl) rfl ?_
                    refine sm_iald ok_X12_seedAt (mi 104 rfl) (fk (MI_s J112) 54 rfl) (fn (MI_s J112) 54 rfl) rfl (by omega) (by decide) ?_
                    refine ex_top (w := nI m) mk160_0.2.2.2.2.2.2.2.2.1 ?_
                    refine ex_icmp_ge (tgt := 202) ok_X12_seedAt (mi 105 rfl) rfl (fun h168 => ?_) (fun h168 => ?_)
                    · skip
                      refine ex_aload_n ok_X12_seedAt (mi 123 rfl) rfl ?_
                      refine ex_getRx ok_X12_seedAt (mi 124 rfl) rfl rfl (fk (MI_s J112) 0 rfl) (fr (MI_s J112) 38 rfl) (fk (MI_s J112) 39 rfl) (by decide) ?_
                      refine ex_iload_n ok_X12_seedAt (mi 125 rfl) rfl ?_
                      refine ex_iconst ok_X12_seedAt (mi 126 rfl) ?_
                      refine mf_A J112 ok_X12_seedAt (mi 127 rfl) (fk (MI_s J112) 39 rfl) (fn (MI_s J112) 39 rfl) rfl (by omega) (by decide) (by decide) (by decide) (by decide) (fun g135 J136 K137 => ?_)
                      have mk138 := KK_mk K137 mk160_0
                      refine ex_aload_n ok_X12_seedAt (mi 128 rfl) rfl ?_
                      refine ex_getRx ok_X12_seedAt (mi 129 rfl) rfl rfl (fk (MI_s J136) 0 rfl) (fr (MI_s J136) 39 rfl) (fk (MI_s J136) 40 rfl) (by decide) ?_
                      refine ex_iload_n ok_X12_seedAt (mi 130 rfl) rfl ?_
                      refine ex_iconst ok_X12_seedAt (mi 131 rfl) ?_
                      refine mf_A J136 ok_X12_seedAt (mi 132 rfl) (fk (MI_s J136) 40 rfl) (fn (MI_s J136) 40 rfl) rfl (by omega) (by decide) (by decide) (by decide) (by decide) (fun g139 J140 K141 => ?_)
                      have mk142 := KK_mk K141 mk138
                      refine ex_aload_n ok_X12_seedAt (mi 133 rfl) rfl ?_
                      refine ex_getRx ok_X12_seedAt (mi 134 rfl) rfl rfl (fk (MI_s J140) 0 rfl) (fr (MI_s J140) 40 rfl) (fk (MI_s J140) 41 rfl) (by decide) ?_
                      refine ex_iload_n ok_X12_seedAt (mi 135 rfl) rfl ?_
                      refine ex_iconst ok_X12_seedAt (mi 136 rfl) ?_
                      refine mf_B J140 ok_X12_seedAt (mi 137 rfl) (fk (MI_s J140) 41 rfl) (fn (MI_s J140) 41 rfl) rfl (by omega) (by decide) (B := 512) (by decide) (by decide) (by decide) (pk_in 0 512 (by decide)) (fun g143 J144 K145 => ?_)
                      have mk146 := KK_mk K145 mk142
                      refine ex_aload_n ok_X12_seedAt (mi 138 rfl) rfl ?_
                      refine ex_getRx ok_X12_seedAt (mi 139 rfl) rfl rfl (fk (MI_s J144) 0 rfl) (fr (MI_s J144) 41 rfl) (fk (MI_s J144) 42 rfl) (by decide) ?_
                      refine ex_iload_n ok_X12_seedAt (mi 140 rfl) rfl ?_
                      refine ex_iconst ok_X12_seedAt (mi 141 rfl) ?_
                      refine mf_B J144 ok_X12_seedAt (mi 142 rfl) (fk (MI_s J144) 42 rfl) (fn (MI_s J144) 42 rfl) rfl (by omega) (by decide) (B := 512) (by decide) (by decide) (by decide) (pk_in 0 512 (by decide)) (fun g147 J148 K149 => ?_)
                      have mk150 := KK_mk K149 mk146
                      refine ex_aload_n ok_X12_seedAt (mi 143 rfl) rfl ?_
                      refine ex_bipush ok_X12_seedAt (mi 144 rfl) ?_
                      refine ex_iload_n ok_X12_seedAt (mi 145 rfl) rfl ?_
                      refine ex_aload_n ok_X12_seedAt (mi 146 rfl) rfl ?_
                      refine ex_getRx ok_X12_seedAt (mi 147 rfl) rfl rfl (fk (MI_s J148) 0 rfl) (fr (MI_s J148) 50 rfl) (fk (MI_s J148) 51 rfl) (by decide) ?_
                      refine ex_iload_n ok_X12_seedAt (mi 148 rfl) rfl ?_
                      refine sm_iald ok_X12_seedAt (mi 149 rfl) (fk (MI_s J148) 51 rfl) (fn (MI_s J148) 51 rfl) rfl (by omega) (by decide) ?_
                      obtain ⟨v151, hv151, ev151⟩ := vp_in_of (n := 3) (vb_in mk150.2.2.1 (by decide)) (by decide)
                      refine ex_top (w := nI v151) ev151 ?_
                      refine ex_iload_n ok_X12_seedAt (mi 150 rfl) rfl ?_
                      refine ex_iconst ok_X12_seedAt (mi 151 rfl) ?_
                      refine ex_iconst ok_X12_seedAt (mi 152 rfl) ?_
                      refine sm_V (As := [_, _, _, _, _, _]) ok_X12_seedAt (mi 153 rfl) rfl (s_X12_lay hst J148 (κ := 19) (by decide) (Or.inl rfl) (Or.inr (vp_in_nI (N := 3) (by omega) (by decide))) (Or.inl rfl) (Or.inl rfl) (Or.inl rfl)) rfl (fk (MI_s J148) 0 rfl) rfl rfl (by decide) (by decide) (Nat.le_of_ble_eq_true rfl) (by decide) LV_no (fun z152 g154 p153 => ?_)
                      obtain ⟨b156, eb156, hb156, J155, lb156⟩ := p153
                      cases eb156
                      refine ex_istore ok_X12_seedAt (mi 154 rfl) ?_
                      refine ex_vret ok_X12_seedAt (mi 155 rfl) rfl ?_
                      exact ⟨_, rfl, rfl, J155⟩
                    · skip
                      have l168 : k160 < m := Nat.lt_of_not_le (fun q => h168 (nI_le q (by omega)))
                      refine ex_aload_n ok_X12_seedAt (mi 106 rfl) rfl ?_
                      refine ex_getRx ok_X12_seedAt (mi 107 rfl) rfl rfl (fk (MI_s J112) 0 rfl) (fr (MI_s J112) 37 rfl) (fk (MI_s J112) 38 rfl) (by decide) ?_
                      refine ex_sipush ok_X12_seedAt (mi 108 rfl) ?_
                      refine ex_iload_n ok_X12_seedAt (mi 109 rfl) rfl ?_
                      refine ex_imul ok_X12_seedAt (mi 110 rfl) ?_
                      refine ex_top (w := (nI (300 * a0))) (nI_mulc rfl) ?_
                      refine ex_aload_n ok_X12_seedAt (mi 111 rfl) rfl ?_
                      refine ex_iload_n ok_X12_seedAt (mi 112 rfl) rfl ?_
                      refine ex_iload ok_X12_seedAt (mi 113 rfl) rfl ?_
                      refine sf_Vp (As := [_, _]) ok_X12_seedAt (mi 114 rfl) rfl (s_entryRound hst (MI_s J112) (m := m) (by omega) (by omega) (by omega) (mk160_0.2.2.2.2.2.2.2.2.2.1 (by decide))) rfl (fk (MI_s J112) 0 rfl) rfl rfl (by decide) (by decide) (Nat.le_of_ble_eq_true rfl) (by decide) (fun z157 p158 => ?_)
                      obtain ⟨v161, hv161, rfl⟩ := p158
                      refine ex_iadd ok_X12_seedAt (mi 115 rfl) ?_
                      refine ex_top (w := (nI (300 * a0 + v161))) (nI_add _ _) ?_
                      refine ex_aload_n ok_X12_seedAt (mi 116 rfl) rfl ?_
                      refine ex_iload_n ok_X12_seedAt (mi 117 rfl) rfl ?_
                      refine ex_iload ok_X12_seedAt (mi 118 rfl) rfl ?_
                      refine sf_Vp (As := [_, _]) ok_X12_seedAt (mi 119 rfl) rfl (s_entryGroup hst (MI_s J112) (m := m) (by omega) (by omega) (by omega)) rfl (fk (MI_s J112) 0 rfl) rfl rfl (by decide) (by decide) (Nat.le_of_ble_eq_true rfl) (by decide) (fun z162 p163 => ?_)
                      obtain ⟨v166, rfl⟩ := p163
                      refine mf_A J112 ok_X12_seedAt (mi 120 rfl) (fk (MI_s J112) 38 rfl) (fn (MI_s J112) 38 rfl) rfl (by omega) (by decide) (by decide) (by decide) (by decide) (fun g167 J168 K169 => ?_)
                      have mk170 := KK_mk K169 mk160_0
                      refine ex_iincx (w := (nI (k160 + 1))) ok_X12_seedAt (mi 121 rfl) rfl (nI_1 _) ?_
                      refine ex_goto (tgt := 160) ok_X12_seedAt (mi 122 rfl) rfl ?_
                      exact ex_ls (ls' := [(0, .ref y), (1, .int (nI (a0))), (2, .int (nI (a1))), (3, .int w1), (4, .int (nI 1)), (5, .int (nI (k160 + 1)))]) ⟨rfl, rfl, rfl, rfl, rfl, rfl, trivial⟩ (ih160 (k160 + 1) (by omega) g167 J168 mk170)
                exact ex_ls (ls' := [(0, .ref y), (1, .int (nI (a0))), (2, .int (nI (a1))), (3, .int w1), (4, .int (nI 1)), (5, .int (nI 0))]) ⟨rfl, rfl, rfl, rfl, rfl, rfl, trivial⟩ (lp160 (300 - 0) (0) (by omega) g109 J110 mk129_0)
              | succ n129 ih129 =>
                intro k129 he129  g109 J110 mk129_0
                have hr129 : k129 < 300 := by omega
                refine ex_iload ok_X12_seedAt (mi 84 rfl) rfl ?_
                refine ex_sipush ok_X12_seedAt (mi 85 rfl) ?_
                refine ex_icmp_ge (tgt := 157) ok_X12_seedAt (mi 86 rfl) rfl (fun hn => absurd hn (nI_ge (b := 300) hr129 (by decide))) (fun _ => ?_)
                refine ex_aload_n ok_X12_seedAt (mi 87 rfl) rfl ?_
                refine ex_getRx ok_X12_seedAt (mi 88 rfl) rfl rfl (fk (MI_s J110) 0 rfl) (fr (MI_s J110) 37 rfl) (fk (MI_s J110) 38 rfl) (by decide) ?_
                refine ex_sipush ok_X12_seedAt (mi 89 rfl) ?_
                refine ex_iload_n ok_X12_seedAt (mi 90 rfl) rfl ?_
                refine ex_imul ok_X12_seedAt (mi 91 rfl) ?_
                refine ex_top (w := (nI (300 * a0))) (nI_mulc rfl) ?_
                refine ex_iload ok_X12_seedAt (mi 92 rfl) rfl ?_
                refine ex_iadd ok_X12_seedAt (mi 93 rfl) ?_
                refine ex_top (w := (nI (300 * a0 + k129))) (nI_add _ _) ?_
                refine ex_iconst ok_X12_seedAt (mi 94 rfl) ?_
                refine mf_A J110 ok_X12_seedAt (mi 95 rfl) (fk (MI_s J110) 38 rfl) (fn (MI_s J110) 38 rfl) rfl (by omega) (by decide) (by decide) (by decide) (by decide) (fun g171 J172 K173 => ?_)
                have mk174 := KK_mk K173 mk129_0
                refine ex_iincx (w := (nI (k129 + 1))) ok_X12_seedAt (mi 96 rfl) rfl (nI_1 _) ?_
                refine ex_goto (tgt := 129) ok_X12_seedAt (mi 97 rfl) rfl ?_
                exact ex_ls (ls' := [(0, .ref y), (1, .int (nI (a0))), (2, .int (nI (a1))), (3, .int w1), (4, .int (nI 1)), (5, .int (nI (k129 + 1)))]) ⟨rfl, rfl, rfl, rfl, rfl, rfl, trivial⟩ (ih129 (k129 + 1) (by omega) g171 J172 mk174)
            exact ex_ls (ls' := [(0, .ref y), (1, .int (nI (a0))), (2, .int (nI (a1))), (3, .int w1), (4, .int (nI 1)), (5, .int (nI 0))]) ⟨rfl, rfl, rfl, rfl, rfl, rfl, trivial⟩ (lp129 (300 - 0) (0) (by omega) g105 J106 mk108)
    · skip
      refine ex_aload_n ok_X12_seedAt (mi 18 rfl) rfl ?_
      refine ex_getRx ok_X12_seedAt (mi 19 rfl) rfl rfl (fk (MI_s I) 0 rfl) (fr (MI_s I) 34 rfl) (fk (MI_s I) 35 rfl) (by decide) ?_
      refine ex_iload_n ok_X12_seedAt (mi 20 rfl) rfl ?_
      refine sm_iald ok_X12_seedAt (mi 21 rfl) (fk (MI_s I) 35 rfl) (fn (MI_s I) 35 rfl) rfl (by omega) (by decide) ?_
      refine ex_gen (fun w175 => ?_)
      refine ex_iload_n ok_X12_seedAt (mi 22 rfl) rfl ?_
      refine ex_icmp_le (tgt := 67) ok_X12_seedAt (mi 23 rfl) rfl (fun h35 => ?_) (fun h35 => ?_)
      · skip
        refine ex_iconst ok_X12_seedAt (mi 41 rfl) ?_
        refine ex_goto (tgt := 72) ok_X12_seedAt (mi 42 rfl) rfl ?_
        refine ex_istore ok_X12_seedAt (mi 44 rfl) ?_
        refine ex_iload ok_X12_seedAt (mi 45 rfl) rfl ?_
        refine ex_if_ne (tgt := 80) ok_X12_seedAt (mi 46 rfl) rfl (fun _ => ?_) (fun hn => absurd hn (by decide))
        refine ex_aload_n ok_X12_seedAt (mi 48 rfl) rfl ?_
        refine ex_getRx ok_X12_seedAt (mi 49 rfl) rfl rfl (fk (MI_s I) 0 rfl) (fr (MI_s I) 33 rfl) (fk (MI_s I) 34 rfl) (by decide) ?_
        refine ex_iload_n ok_X12_seedAt (mi 50 rfl) rfl ?_
        refine ex_iconst ok_X12_seedAt (mi 51 rfl) ?_
        refine mf_A I ok_X12_seedAt (mi 52 rfl) (fk (MI_s I) 34 rfl) (fn (MI_s I) 34 rfl) rfl (by omega) (by decide) (by decide) (by decide) (by decide) (fun g176 J177 K178 => ?_)
        have mk179 := KK_mk K178 hmk
        refine ex_aload_n ok_X12_seedAt (mi 53 rfl) rfl ?_
        refine ex_getRx ok_X12_seedAt (mi 54 rfl) rfl rfl (fk (MI_s J177) 0 rfl) (fr (MI_s J177) 34 rfl) (fk (MI_s J177) 35 rfl) (by decide) ?_
        refine ex_iload_n ok_X12_seedAt (mi 55 rfl) rfl ?_
        refine ex_iload_n ok_X12_seedAt (mi 56 rfl) rfl ?_
        refine mf_A J177 ok_X12_seedAt (mi 57 rfl) (fk (MI_s J177) 35 rfl) (fn (MI_s J177) 35 rfl) rfl (by omega) (by decide) (by decide) (by decide) (by decide) (fun g180 J181 K182 => ?_)
        have mk183 := KK_mk K182 mk179
        refine ex_aload_n ok_X12_seedAt (mi 58 rfl) rfl ?_
        refine ex_getRx ok_X12_seedAt (mi 59 rfl) rfl rfl (fk (MI_s J181) 0 rfl) (fr (MI_s J181) 35 rfl) (fk (MI_s J181) 36 rfl) (by decide) ?_
        refine ex_iload_n ok_X12_seedAt (mi 60 rfl) rfl ?_
        refine ex_aload_n ok_X12_seedAt (mi 61 rfl) rfl ?_
        refine ex_getRx ok_X12_seedAt (mi 62 rfl) rfl rfl (fk (MI_s J181) 0 rfl) (fr (MI_s J181) 52 rfl) (fk (MI_s J181) 53 rfl) (by decide) ?_
        refine ex_iconst ok_X12_seedAt (mi 63 rfl) ?_
        refine ex_iload_n ok_X12_seedAt (mi 64 rfl) rfl ?_
        refine ex_imul ok_X12_seedAt (mi 65 rfl) ?_
        refine ex_top (w := (nI (3 * a1))) (nI_mulc rfl) ?_
        refine ex_iconst ok_X12_seedAt (mi 66 rfl) ?_
        refine ex_iadd ok_X12_seedAt (mi 67 rfl) ?_
        refine ex_top (w := (nI (3 * a1 + 1))) (nI_add _ 1) ?_
        refine sm_iald ok_X12_seedAt (mi 68 rfl) (fk (MI_s J181) 53 rfl) (fn (MI_s J181) 53 rfl) rfl (by omega) (by decide) ?_
        obtain ⟨v184, hv184, ev184⟩ := vp_in_of (n := 512) (vb_in mk183.2.2.2.2.1 (by decide)) (by decide)
        refine ex_top (w := nI v184) ev184 ?_
        refine mf_B J181 ok_X12_seedAt (mi 69 rfl) (fk (MI_s J181) 36 rfl) (fn (MI_s J181) 36 rfl) rfl (by omega) (by decide) (B := 512) (by decide) (by decide) (by decide) (vp_in_nI (N := 512) (by omega) (by decide)) (fun g185 J186 K187 => ?_)
        have mk188 := KK_mk K187 mk183
        refine ex_aload_n ok_X12_seedAt (mi 70 rfl) rfl ?_
        refine ex_getRx ok_X12_seedAt (mi 71 rfl) rfl rfl (fk (MI_s J186) 0 rfl) (fr (MI_s J186) 36 rfl) (fk (MI_s J186) 37 rfl) (by decide) ?_
        refine ex_iload_n ok_X12_seedAt (mi 72 rfl) rfl ?_
        refine ex_aload_n ok_X12_seedAt (mi 73 rfl) rfl ?_
        refine ex_getRx ok_X12_seedAt (mi 74 rfl) rfl rfl (fk (MI_s J186) 0 rfl) (fr (MI_s J186) 52 rfl) (fk (MI_s J186) 53 rfl) (by decide) ?_
        refine ex_iconst ok_X12_seedAt (mi 75 rfl) ?_
        refine ex_iload_n ok_X12_seedAt (mi 76 rfl) rfl ?_
        refine ex_imul ok_X12_seedAt (mi 77 rfl) ?_
        refine ex_top (w := (nI (3 * a1))) (nI_mulc rfl) ?_
        refine ex_iconst ok_X12_seedAt (mi 78 rfl) ?_
        refine ex_iadd ok_X12_seedAt (mi 79 rfl) ?_
        refine ex_top (w := (nI (3 * a1 + 2))) (nI_add _ 2) ?_
        refine sm_iald ok_X12_seedAt (mi 80 rfl) (fk (MI_s J186) 53 rfl) (fn (MI_s J186) 53 rfl) rfl (by omega) (by decide) ?_
        obtain ⟨v189, hv189, ev189⟩ := vp_in_of (n := 300) (vb_in mk188.2.2.2.2.2.1 (by decide)) (by decide)
        refine ex_top (w := nI v189) ev189 ?_
        refine mf_B J186 ok_X12_seedAt (mi 81 rfl) (fk (MI_s J186) 37 rfl) (fn (MI_s J186) 37 rfl) rfl (by omega) (by decide) (B := 300) (by decide) (by decide) (by decide) (vp_in_nI (N := 300) (by omega) (by decide)) (fun g190 J191 K192 => ?_)
        have mk193 := KK_mk K192 mk188
        refine ex_iconst ok_X12_seedAt (mi 82 rfl) ?_
        refine ex_istore ok_X12_seedAt (mi 83 rfl) ?_
        have lp129 : ∀ n129 k129 : Nat, k129 + n129 = 300 → ∀ (g194 : GT), MI y D c R g194 → MK y g194 a1 18 m → ex_W G 2 0 0 M_X12_seedAt 129 [(0, .ref y), (1, .int (nI (a0))), (2, .int (nI (a1))), (3, .int w1), (4, .int (nI 1)), (5, .int (nI (k129)))] [] g194 (SM y D c R pN) := by
          intro n129
          induction n129 with
          | zero =>
            intro k129 he129  g194 J195 mk129_0
            obtain rfl : k129 = 300 := by omega
            refine ex_iload ok_X12_seedAt (mi 84 rfl) rfl ?_
            refine ex_sipush ok_X12_seedAt (mi 85 rfl) ?_
            refine ex_icmp_ge (tgt := 157) ok_X12_seedAt (mi 86 rfl) rfl (fun _ => ?_) (fun hn => absurd (by decide) hn)
            refine ex_iconst ok_X12_seedAt (mi 98 rfl) ?_
            refine ex_istore ok_X12_seedAt (mi 99 rfl) ?_
            have lp160 : ∀ n160 k160 : Nat, k160 + n160 = 300 → ∀ (g196 : GT), MI y D c R g196 → MK y g196 a1 18 m → ex_W G 2 0 0 M_X12_seedAt 160 [(0, .ref y), (1, .int (nI (a0))), (2, .int (nI (a1))), (3, .int w1), (4, .int (nI 1)), (5, .int (nI (k160)))] [] g196 (SM y D c R pN) := by
              intro n160
              induction n160 with
              | zero =>
                intro k160 he160  g196 J197 mk160_0
                obtain rfl : k160 = 300 := by omega
                refine ex_iload ok_X12_seedAt (mi 100 rfl) rfl ?_
                refine ex_aload_n ok_X12_seedAt (mi 101 rfl) rfl ?_
                refine ex_getRx ok_X12_seedAt (mi 102 rfl) rfl rfl (fk (MI_s J197) 0 rfl) (fr (MI_s J197) 53 rfl) (fk (MI_s J197) 54 rfl) (by decide) ?_
                refine ex_iload_n ok_X12_seedAt (mi 103 rfl) rfl ?_
                refine sm_iald ok_X12_seedAt (mi 104 rfl) (fk (MI_s J197) 54 rfl) (fn (MI_s J197) 54 rfl) rfl (by omega) (by decide) ?_
                refine ex_top (w := nI m) mk160_0.2.2.2.2.2.2.2.2.1 ?_
                refine ex_icmp_ge (tgt := 202) ok_X12_seedAt (mi 105 rfl) rfl (fun _ => ?_) (fun hn => absurd (nI_le (b := 300) (a := m) (by omega) (by omega)) hn)
                refine ex_aload_n ok_X12_seedAt (mi 123 rfl) rfl ?_
                refine ex_getRx ok_X12_seedAt (mi 124 rfl) rfl rfl (fk (MI_s J197) 0 rfl) (fr (MI_s J197) 38 rfl) (fk (MI_s J197) 39 rfl) (by decide) ?_
                refine ex_iload_n ok_X12_seedAt (mi 125 rfl) rfl ?_
                refine ex_iconst ok_X12_seedAt (mi 126 rfl) ?_
                refine mf_A J197 ok_X12_seedAt (mi 127 rfl) (fk (MI_s J197) 39 rfl) (fn (MI_s J197) 39 rfl) rfl (by omega) (by decide) (by decide) (by decide) (by decide) (fun g198 J199 K200 => ?_)
                have mk201 := KK_mk K200 mk160_0
                refine ex_aload_n ok_X12_seedAt (mi 128 rfl) rfl ?_
                refine ex_getRx ok_X12_seedAt (mi 129 rfl) rfl rfl (fk (MI_s J199) 0 rfl) (fr (MI_s J199) 39 rfl) (fk (MI_s J199) 40 rfl) (by decide) ?_
                refine ex_iload_n ok_X12_seedAt (mi 130 rfl) rfl ?_
                refine ex_iconst ok_X12_seedAt (mi 131 rfl) ?_
                refine mf_A J199 ok_X12_seedAt (mi 132 rfl) (fk (MI_s J199) 40 rfl) (fn (MI_s J199) 40 rfl) rfl (by omega) (by decide) (by decide) (by decide) (by decide) (fun g202 J203 K204 => ?_)
                have mk205 := KK_mk K204 mk201
                refine ex_aload_n ok_X12_seedAt (mi 133 rfl) rfl ?_
                refine ex_getRx ok_X12_seedAt (mi 134 rfl) rfl rfl (fk (MI_s J203) 0 rfl) (fr (MI_s J203) 40 rfl) (fk (MI_s J203) 41 rfl) (by decide) ?_
                refine ex_iload_n ok_X12_seedAt (mi 135 rfl) rfl ?_
                refine ex_iconst ok_X12_seedAt (mi 136 rfl) ?_
                refine mf_B J203 ok_X12_seedAt (mi 137 rfl) (fk (MI_s J203) 41 rfl) (fn (MI_s J203) 41 rfl) rfl (by omega) (by decide) (B := 512) (by decide) (by decide) (by decide) (pk_in 0 512 (by decide)) (fun g206 J207 K208 => ?_)
                have mk209 := KK_mk K208 mk205
                refine ex_aload_n ok_X12_seedAt (mi 138 rfl) rfl ?_
                refine ex_getRx ok_X12_seedAt (mi 139 rfl) rfl rfl (fk (MI_s J207) 0 rfl) (fr (MI_s J207) 41 rfl) (fk (MI_s J207) 42 rfl) (by decide) ?_
                refine ex_iload_n ok_X12_seedAt (mi 140 rfl) rfl ?_
                refine ex_iconst ok_X12_seedAt (mi 141 rfl) ?_
                refine mf_B J207 ok_X12_seedAt (mi 142 rfl) (fk (MI_s J207) 42 rfl) (fn (MI_s J207) 42 rfl) rfl (by omega) (by decide) (B := 512) (by decide) (by decide) (by decide) (pk_in 0 512 (by decide)) (fun g210 J211 K212 => ?_)
                have mk213 := KK_mk K212 mk209
                refine ex_aload_n ok_X12_seedAt (mi 143 rfl) rfl ?_
                refine ex_bipush ok_X12_seedAt (mi 144 rfl) ?_
                refine ex_iload_n ok_X12_seedAt (mi 145 rfl) rfl ?_
                refine ex_aload_n ok_X12_seedAt (mi 146 rfl) rfl ?_
                refine ex_getRx ok_X12_seedAt (mi 147 rfl) rfl rfl (fk (MI_s J211) 0 rfl) (fr (MI_s J211) 50 rfl) (fk (MI_s J211) 51 rfl) (by decide) ?_
                refine ex_iload_n ok_X12_seedAt (mi 148 rfl) rfl ?_
                refine sm_iald ok_X12_seedAt (mi 149 rfl) (fk (MI_s J211) 51 rfl) (fn (MI_s J211) 51 rfl) rfl (by omega) (by decide) ?_
                obtain ⟨v214, hv214, ev214⟩ := vp_in_of (n := 3) (vb_in mk213.2.2.1 (by decide)) (by decide)
                refine ex_top (w := nI v214) ev214 ?_
                refine ex_iload_n ok_X12_seedAt (mi 150 rfl) rfl ?_
                refine ex_iconst ok_X12_seedAt (mi 151 rfl) ?_
                refine ex_iconst ok_X12_seedAt (mi 152 rfl) ?_
                refine sm_V (As := [_, _, _, _, _, _]) ok_X12_seedAt (mi 153 rfl) rfl (s_X12_lay hst J211 (κ := 19) (by decide) (Or.inl rfl) (Or.inr (vp_in_nI (N := 3) (by omega) (by decide))) (Or.inl rfl) (Or.inl rfl) (Or.inl rfl)) rfl (fk (MI_s J211) 0 rfl) rfl rfl (by decide) (by decide) (Nat.le_of_ble_eq_true rfl) (by decide) LV_no (fun z215 g217 p216 => ?_)
                obtain ⟨b219, eb219, hb219, J218, lb219⟩ := p216
                cases eb219
                refine ex_istore ok_X12_seedAt (mi 154 rfl) ?_
                refine ex_vret ok_X12_seedAt (mi 155 rfl) rfl ?_
                exact ⟨_, rfl, rfl, J218⟩
              | succ n160 ih160 =>
                intro k160 he160  g196 J197 mk160_0
                have hr160 : k160 < 300 := by omega
                refine ex_iload ok_X12_seedAt (mi 100 rfl) rfl ?_
                refine ex_aload_n ok_X12_seedAt (mi 101 rfl) rfl ?_
                refine ex_getRx ok_X12_seedAt (mi 102 rfl) rfl rfl (fk (MI_s J197) 0 rfl) (fr (MI_s J197) 53 rfl) (fk (MI_s J197) 54 rfl) (by decide) ?_
                refine ex_iload_n ok_X12_seedAt (mi 103 rfl) rfl ?_
                refine sm_iald ok_X12_seedAt (mi 104 rfl) (fk (MI_s J197) 54 rfl) (fn (MI_s J197) 54 rfl) rfl (by omega) (by decide) ?_
                refine ex_top (w := nI m) mk160_0.2.2.2.2.2.2.2.2.1 ?_
                refine ex_icmp_ge (tgt := 202) ok_X12_seedAt (mi 105 rfl) rfl (fun h168 => ?_) (fun h168 => ?_)
                · skip
                  refine ex_aload_n ok_X12_seedAt (mi 123 rfl) rfl ?_
                  refine ex_getRx ok_X12_seedAt (mi 124 rfl) rfl rfl (fk (MI_s J197) 0 rfl) (fr (MI_s J197) 38 rfl) (fk (MI_s J197) 39 rfl) (by decide) ?_
                  refine ex_iload_n ok_X12_seedAt (mi 125 rfl) rfl ?_
                  refine ex_iconst ok_X12_seedAt (mi 126 rfl) ?_
                  refine mf_A J197 ok_X12_seedAt (mi 127 rfl) (fk (MI_s J197) 39 rfl) (fn (MI_s J197) 39 rfl) rfl (by omega) (by decide) (by decide) (by decide) (by decide) (fun g220 J221 K222 => ?_)
                  have mk223 := KK_mk K222 mk160_0
                  refine ex_aload_n ok_X12_seedAt (mi 128 rfl) rfl ?_
                  refine ex_getRx ok_X12_seedAt (mi 129 rfl) rfl rfl (fk (MI_s J221) 0 rfl) (fr (MI_s J221) 39 rfl) (fk (MI_s J221) 40 rfl) (by decide) ?_
                  refine ex_iload_n ok_X12_seedAt (mi 130 rfl) rfl ?_
                  refine ex_iconst ok_X12_seedAt (mi 131 rfl) ?_
                  refine mf_A J221 ok_X12_seedAt (mi 132 rfl) (fk (MI_s J221) 40 rfl) (fn (MI_s J221) 40 rfl) rfl (by omega) (by decide) (by decide) (by decide) (by decide) (fun g224 J225 K226 => ?_)
                  have mk227 := KK_mk K226 mk223
                  refine ex_aload_n ok_X12_seedAt (mi 133 rfl) rfl ?_
                  refine ex_getRx ok_X12_seedAt (mi 134 rfl) rfl rfl (fk (MI_s J225) 0 rfl) (fr (MI_s J225) 40 rfl) (fk (MI_s J225) 41 rfl) (by decide) ?_
                  refine ex_iload_n ok_X12_seedAt (mi 135 rfl) rfl ?_
                  refine ex_iconst ok_X12_seedAt (mi 136 rfl) ?_
                  refine mf_B J225 ok_X12_seedAt (mi 137 rfl) (fk (MI_s J225) 41 rfl) (fn (MI_s J225) 41 rfl) rfl (by omega) (by decide) (B := 512) (by decide) (by decide) (by decide) (pk_in 0 512 (by decide)) (fun g228 J229 K230 => ?_)
                  have mk231 := KK_mk K230 mk227
                  refine ex_aload_n ok_X12_seedAt (mi 138 rfl) rfl ?_
                  refine ex_getRx ok_X12_seedAt (mi 139 rfl) rfl rfl (fk (MI_s J229) 0 rfl) (fr (MI_s J229) 41 rfl) (fk (MI_s J229) 42 rfl) (by decide) ?_
                  refine ex_iload_n ok_X12_seedAt (mi 140 rfl) rfl ?_
                  refine ex_iconst ok_X12_seedAt (mi 141 rfl) ?_
                  refine mf_B J229 ok_X12_seedAt (mi 142 rfl) (fk (MI_s J229) 42 rfl) (fn (MI_s J229) 42 rfl) rfl (by omega) (by decide) (B := 512) (by decide) (by decide) (by decide) (pk_in 0 512 (by decide)) (fun g232 J233 K234 => ?_)
                  have mk235 := KK_mk K234 mk231
                  refine ex_aload_n ok_X12_seedAt (mi 143 rfl) rfl ?_
                  refine ex_bipush ok_X12_seedAt (mi 144 rfl) ?_
                  refine ex_iload_n ok_X12_seedAt (mi 145 rfl) rfl ?_
                  refine ex_aload_n ok_X12_seedAt (mi 146 rfl) rfl ?_
                  refine ex_getRx ok_X12_seedAt (mi 147 rfl) rfl rfl (fk (MI_s J233) 0 rfl) (fr (MI_s J233) 50 rfl) (fk (MI_s J233) 51 rfl) (by decide) ?_
                  refine ex_iload_n ok_X12_seedAt (mi 148 rfl) rfl ?_
                  refine sm_iald ok_X12_seedAt (mi 149 rfl) (fk (MI_s J233) 51 rfl) (fn (MI_s J233) 51 rfl) rfl (by omega) (by decide) ?_
                  obtain ⟨v236, hv236, ev236⟩ := vp_in_of (n := 3) (vb_in mk235.2.2.1 (by decide)) (by decide)
                  refine ex_top (w := nI v236) ev236 ?_
                  refine ex_iload_n ok_X12_seedAt (mi 150 rfl) rfl ?_
                  refine ex_iconst ok_X12_seedAt (mi 151 rfl) ?_
                  refine ex_iconst ok_X12_seedAt (mi 152 rfl) ?_
                  refine sm_V (As := [_, _, _, _, _, _]) ok_X12_seedAt (mi 153 rfl) rfl (s_X12_lay hst J233 (κ := 19) (by decide) (Or.inl rfl) (Or.inr (vp_in_nI (N := 3) (by omega) (by decide))) (Or.inl rfl) (Or.inl rfl) (Or.inl rfl)) rfl (fk (MI_s J233) 0 rfl) rfl rfl (by decide) (by decide) (Nat.le_of_ble_eq_true rfl) (by decide) LV_no (fun z237 g239 p238 => ?_)
                  obtain ⟨b241, eb241, hb241, J240, lb241⟩ := p238
                  cases eb241
                  refine ex_istore ok_X12_seedAt (mi 154 rfl) ?_
                  refine ex_vret ok_X12_seedAt (mi 155 rfl) rfl ?_
                  exact ⟨_, rfl, rfl, J240⟩
                · skip
                  have l168 : k160 < m := Nat.lt_of_not_le (fun q => h168 (nI_le q (by omega)))
                  refine ex_aload_n ok_X12_seedAt (mi 106 rfl) rfl ?_
                  refine ex_getRx ok_X12_seedAt (mi 107 rfl) rfl rfl (fk (MI_s J197) 0 rfl) (fr (MI_s J197) 37 rfl) (fk (MI_s J197) 38 rfl) (by decide) ?_
                  refine ex_sipush ok_X12_seedAt (mi 108 rfl) ?_
                  refine ex_iload_n ok_X12_seedAt (mi 109 rfl) rfl ?_
                  refine ex_imul ok_X12_seedAt (mi 110 rfl) ?_
                  refine ex_top (w := (nI (300 * a0))) (nI_mulc rfl) ?_
                  refine ex_aload_n ok_X12_seedAt (mi 111 rfl) rfl ?_
                  refine ex_iload_n ok_X12_seedAt (mi 112 rfl) rfl ?_
                  refine ex_iload ok_X12_seedAt (mi 113 rfl) rfl ?_
                  refine sf_Vp (As := [_, _]) ok_X12_seedAt (mi 114 rfl) rfl (s_entryRound hst (MI_s J197) (m := m) (by omega) (by omega) (by omega) (mk160_0.2.2.2.2.2.2.2.2.2.1 (by decide))) rfl (fk (MI_s J197) 0 rfl) rfl rfl (by decide) (by decide) (Nat.le_of_ble_eq_true rfl) (by decide) (fun z242 p243 => ?_)
                  obtain ⟨v246, hv246, rfl⟩ := p243
                  refine ex_iadd ok_X12_seedAt (mi 115 rfl) ?_
                  refine ex_top (w := (nI (300 * a0 + v246))) (nI_add _ _) ?_
                  refine ex_aload_n ok_X12_seedAt (mi 116 rfl) rfl ?_
                  refine ex_iload_n ok_X12_seedAt (mi 117 rfl) rfl ?_
                  refine ex_iload ok_X12_seedAt (mi 118 rfl) rfl ?_
                  refine sf_Vp (As := [_, _]) ok_X12_seedAt (mi 119 rfl) rfl (s_entryGroup hst (MI_s J197) (m := m) (by omega) (by omega) (by omega)) rfl (fk (MI_s J197) 0 rfl) rfl rfl (by decide) (by decide) (Nat.le_of_ble_eq_true rfl) (by decide) (fun z247 p248 => ?_)
                  obtain ⟨v251, rfl⟩ := p248
                  refine mf_A J197 ok_X12_seedAt (mi 120 rfl) (fk (MI_s J197) 38 rfl) (fn (MI_s J197) 38 rfl) rfl (by omega) (by decide) (by decide) (by decide) (by decide) (fun g252 J253 K254 => ?_)
                  have mk255 := KK_mk K254 mk160_0
                  refine ex_iincx (w := (nI (k160 + 1))) ok_X12_seedAt (mi 121 rfl) rfl (nI_1 _) ?_
                  refine ex_goto (tgt := 160) ok_X12_seedAt (mi 122 rfl) rfl ?_
                  exact ex_ls (ls' := [(0, .ref y), (1, .int (nI (a0))), (2, .int (nI (a1))), (3, .int w1), (4, .int (nI 1)), (5, .int (nI (k160 + 1)))]) ⟨rfl, rfl, rfl, rfl, rfl, rfl, trivial⟩ (ih160 (k160 + 1) (by omega) g252 J253 mk255)
            exact ex_ls (ls' := [(0, .ref y), (1, .int (nI (a0))), (2, .int (nI (a1))), (3, .int w1), (4, .int (nI 1)), (5, .int (nI 0))]) ⟨rfl, rfl, rfl, rfl, rfl, rfl, trivial⟩ (lp160 (300 - 0) (0) (by omega) g194 J195 mk129_0)
          | succ n129 ih129 =>
            intro k129 he129  g194 J195 mk129_0
            have hr129 : k129 < 300 := by omega
            refine ex_iload ok_X12_seedAt (mi 84 rfl) rfl ?_
            refine ex_sipush ok_X12_seedAt (mi 85 rfl) ?_
            refine ex_icmp_ge (tgt := 157) ok_X12_seedAt (mi 86 rfl) rfl (fun hn => absurd hn (nI_ge (b := 300) hr129 (by decide))) (fun _ => ?_)
            refine ex_aload_n ok_X12_seedAt (mi 87 rfl) rfl ?_
            refine ex_getRx ok_X12_seedAt (mi 88 rfl) rfl rfl (fk (MI_s J195) 0 rfl) (fr (MI_s J195) 37 rfl) (fk (MI_s J195) 38 rfl) (by decide) ?_
            refine ex_sipush ok_X12_seedAt (mi 89 rfl) ?_
            refine ex_iload_n ok_X12_seedAt (mi 90 rfl) rfl ?_
            refine ex_imul ok_X12_seedAt (mi 91 rfl) ?_
            refine ex_top (w := (nI (300 * a0))) (nI_mulc rfl) ?_
            refine ex_iload ok_X12_seedAt (mi 92 rfl) rfl ?_
            refine ex_iadd ok_X12_seedAt (mi 93 rfl) ?_
            refine ex_top (w := (nI (300 * a0 + k129))) (nI_add _ _) ?_
            refine ex_iconst ok_X12_seedAt (mi 94 rfl) ?_
            refine mf_A J195 ok_X12_seedAt (mi 95 rfl) (fk (MI_s J195) 38 rfl) (fn (MI_s J195) 38 rfl) rfl (by omega) (by decide) (by decide) (by decide) (by decide) (fun g256 J257 K258 => ?_)
            have mk259 := KK_mk K258 mk129_0
            refine ex_iincx (w := (nI (k129 + 1))) ok_X12_seedAt (mi 96 rfl) rfl (nI_1 _) ?_
            refine ex_goto (tgt := 129) ok_X12_seedAt (mi 97 rfl) rfl ?_
            exact ex_ls (ls' := [(0, .ref y), (1, .int (nI (a0))), (2, .int (nI (a1))), (3, .int w1), (4, .int (nI 1)), (5, .int (nI (k129 + 1)))]) ⟨rfl, rfl, rfl, rfl, rfl, rfl, trivial⟩ (ih129 (k129 + 1) (by omega) g256 J257 mk259)
        exact ex_ls (ls' := [(0, .ref y), (1, .int (nI (a0))), (2, .int (nI (a1))), (3, .int w1), (4, .int (nI 1)), (5, .int (nI 0))]) ⟨rfl, rfl, rfl, rfl, rfl, rfl, trivial⟩ (lp129 (300 - 0) (0) (by omega) g190 J191 mk193)
      · skip
        refine ex_aload_n ok_X12_seedAt (mi 24 rfl) rfl ?_
        refine ex_getRx ok_X12_seedAt (mi 25 rfl) rfl rfl (fk (MI_s I) 0 rfl) (fr (MI_s I) 33 rfl) (fk (MI_s I) 34 rfl) (by decide) ?_
        refine ex_iload_n ok_X12_seedAt (mi 26 rfl) rfl ?_
        refine sm_iald ok_X12_seedAt (mi 27 rfl) (fk (MI_s I) 34 rfl) (fn (MI_s I) 34 rfl) rfl (by omega) (by decide) ?_
        refine ex_gen (fun w260 => ?_)
        refine ex_iconst ok_X12_seedAt (mi 28 rfl) ?_
        refine ex_icmp_ne (tgt := 71) ok_X12_seedAt (mi 29 rfl) rfl (fun h45 => ?_) (fun h45 => ?_)
        · skip
          refine ex_iconst ok_X12_seedAt (mi 43 rfl) ?_
          refine ex_istore ok_X12_seedAt (mi 44 rfl) ?_
          refine ex_iload ok_X12_seedAt (mi 45 rfl) rfl ?_
          refine ex_if_ne (tgt := 80) ok_X12_seedAt (mi 46 rfl) rfl (fun hn => absurd (by decide) hn) (fun _ => ?_)
          refine ex_vret ok_X12_seedAt (mi 47 rfl) rfl ?_
          exact ⟨_, rfl, rfl, I⟩
        · skip
          refine ex_aload_n ok_X12_seedAt (mi 30 rfl) rfl ?_
          refine ex_getRx ok_X12_seedAt (mi 31 rfl) rfl rfl (fk (MI_s I) 0 rfl) (fr (MI_s I) 41 rfl) (fk (MI_s I) 42 rfl) (by decide) ?_
          refine ex_iload_n ok_X12_seedAt (mi 32 rfl) rfl ?_
          refine sm_iald ok_X12_seedAt (mi 33 rfl) (fk (MI_s I) 42 rfl) (fn (MI_s I) 42 rfl) rfl (by omega) (by decide) ?_
          obtain ⟨v261, hv261, ev261⟩ := vp_in_of (n := 512) (MI_bd I 12 rfl (i := a0) (by omega)) (by decide)
          refine ex_top (w := nI v261) ev261 ?_
          refine ex_if_eq (tgt := 71) ok_X12_seedAt (mi 34 rfl) rfl (fun h54 => ?_) (fun h54 => ?_)
          · skip
            refine ex_iconst ok_X12_seedAt (mi 43 rfl) ?_
            refine ex_istore ok_X12_seedAt (mi 44 rfl) ?_
            refine ex_iload ok_X12_seedAt (mi 45 rfl) rfl ?_
            refine ex_if_ne (tgt := 80) ok_X12_seedAt (mi 46 rfl) rfl (fun hn => absurd (by decide) hn) (fun _ => ?_)
            refine ex_vret ok_X12_seedAt (mi 47 rfl) rfl ?_
            exact ⟨_, rfl, rfl, I⟩
          · skip
            have n54 : v261 ≠ 0 := fun e => h54 (by rw [e]; rfl)
            refine ex_aload_n ok_X12_seedAt (mi 35 rfl) rfl ?_
            refine ex_getRx ok_X12_seedAt (mi 36 rfl) rfl rfl (fk (MI_s I) 0 rfl) (fr (MI_s I) 34 rfl) (fk (MI_s I) 35 rfl) (by decide) ?_
            refine ex_iload_n ok_X12_seedAt (mi 37 rfl) rfl ?_
            refine sm_iald ok_X12_seedAt (mi 38 rfl) (fk (MI_s I) 35 rfl) (fn (MI_s I) 35 rfl) rfl (by omega) (by decide) ?_
            refine ex_gen (fun w262 => ?_)
            refine ex_iload_n ok_X12_seedAt (mi 39 rfl) rfl ?_
            refine ex_icmp_ge (tgt := 71) ok_X12_seedAt (mi 40 rfl) rfl (fun h64 => ?_) (fun h64 => ?_)
            · skip
              refine ex_iconst ok_X12_seedAt (mi 43 rfl) ?_
              refine ex_istore ok_X12_seedAt (mi 44 rfl) ?_
              refine ex_iload ok_X12_seedAt (mi 45 rfl) rfl ?_
              refine ex_if_ne (tgt := 80) ok_X12_seedAt (mi 46 rfl) rfl (fun hn => absurd (by decide) hn) (fun _ => ?_)
              refine ex_vret ok_X12_seedAt (mi 47 rfl) rfl ?_
              exact ⟨_, rfl, rfl, I⟩
            · skip
              refine ex_iconst ok_X12_seedAt (mi 41 rfl) ?_
              refine ex_goto (tgt := 72) ok_X12_seedAt (mi 42 rfl) rfl ?_
              refine ex_istore ok_X12_seedAt (mi 44 rfl) ?_
              refine ex_iload ok_X12_seedAt (mi 45 rfl) rfl ?_
              refine ex_if_ne (tgt := 80) ok_X12_seedAt (mi 46 rfl) rfl (fun _ => ?_) (fun hn => absurd hn (by decide))
              refine ex_aload_n ok_X12_seedAt (mi 48 rfl) rfl ?_
              refine ex_getRx ok_X12_seedAt (mi 49 rfl) rfl rfl (fk (MI_s I) 0 rfl) (fr (MI_s I) 33 rfl) (fk (MI_s I) 34 rfl) (by decide) ?_
              refine ex_iload_n ok_X12_seedAt (mi 50 rfl) rfl ?_
              refine ex_iconst ok_X12_seedAt (mi 51 rfl) ?_
              refine mf_A I ok_X12_seedAt (mi 52 rfl) (fk (MI_s I) 34 rfl) (fn (MI_s I) 34 rfl) rfl (by omega) (by decide) (by decide) (by decide) (by decide) (fun g263 J264 K265 => ?_)
              have mk266 := KK_mk K265 hmk
              refine ex_aload_n ok_X12_seedAt (mi 53 rfl) rfl ?_
              refine ex_getRx ok_X12_seedAt (mi 54 rfl) rfl rfl (fk (MI_s J264) 0 rfl) (fr (MI_s J264) 34 rfl) (fk (MI_s J264) 35 rfl) (by decide) ?_
              refine ex_iload_n ok_X12_seedAt (mi 55 rfl) rfl ?_
              refine ex_iload_n ok_X12_seedAt (mi 56 rfl) rfl ?_
              refine mf_A J264 ok_X12_seedAt (mi 57 rfl) (fk (MI_s J264) 35 rfl) (fn (MI_s J264) 35 rfl) rfl (by omega) (by decide) (by decide) (by decide) (by decide) (fun g267 J268 K269 => ?_)
              have mk270 := KK_mk K269 mk266
              refine ex_aload_n ok_X12_seedAt (mi 58 rfl) rfl ?_
              refine ex_getRx ok_X12_seedAt (mi 59 rfl) rfl rfl (fk (MI_s J268) 0 rfl) (fr (MI_s J268) 35 rfl) (fk (MI_s J268) 36 rfl) (by decide) ?_
              refine ex_iload_n ok_X12_seedAt (mi 60 rfl) rfl ?_
              refine ex_aload_n ok_X12_seedAt (mi 61 rfl) rfl ?_
              refine ex_getRx ok_X12_seedAt (mi 62 rfl) rfl rfl (fk (MI_s J268) 0 rfl) (fr (MI_s J268) 52 rfl) (fk (MI_s J268) 53 rfl) (by decide) ?_
              refine ex_iconst ok_X12_seedAt (mi 63 rfl) ?_
              refine ex_iload_n ok_X12_seedAt (mi 64 rfl) rfl ?_
              refine ex_imul ok_X12_seedAt (mi 65 rfl) ?_
              refine ex_top (w := (nI (3 * a1))) (nI_mulc rfl) ?_
              refine ex_iconst ok_X12_seedAt (mi 66 rfl) ?_
              refine ex_iadd ok_X12_seedAt (mi 67 rfl) ?_
              refine ex_top (w := (nI (3 * a1 + 1))) (nI_add _ 1) ?_
              refine sm_iald ok_X12_seedAt (mi 68 rfl) (fk (MI_s J268) 53 rfl) (fn (MI_s J268) 53 rfl) rfl (by omega) (by decide) ?_
              obtain ⟨v271, hv271, ev271⟩ := vp_in_of (n := 512) (vb_in mk270.2.2.2.2.1 (by decide)) (by decide)
              refine ex_top (w := nI v271) ev271 ?_
              refine mf_B J268 ok_X12_seedAt (mi 69 rfl) (fk (MI_s J268) 36 rfl) (fn (MI_s J268) 36 rfl) rfl (by omega) (by decide) (B := 512) (by decide) (by decide) (by decide) (vp_in_nI (N := 512) (by omega) (by decide)) (fun g272 J273 K274 => ?_)
              have mk275 := KK_mk K274 mk270
              refine ex_aload_n ok_X12_seedAt (mi 70 rfl) rfl ?_
              refine ex_getRx ok_X12_seedAt (mi 71 rfl) rfl rfl (fk (MI_s J273) 0 rfl) (fr (MI_s J273) 36 rfl) (fk (MI_s J273) 37 rfl) (by decide) ?_
              refine ex_iload_n ok_X12_seedAt (mi 72 rfl) rfl ?_
              refine ex_aload_n ok_X12_seedAt (mi 73 rfl) rfl ?_
              refine ex_getRx ok_X12_seedAt (mi 74 rfl) rfl rfl (fk (MI_s J273) 0 rfl) (fr (MI_s J273) 52 rfl) (fk (MI_s J273) 53 rfl) (by decide) ?_
              refine ex_iconst ok_X12_seedAt (mi 75 rfl) ?_
              refine ex_iload_n ok_X12_seedAt (mi 76 rfl) rfl ?_
              refine ex_imul ok_X12_seedAt (mi 77 rfl) ?_
              refine ex_top (w := (nI (3 * a1))) (nI_mulc rfl) ?_
              refine ex_iconst ok_X12_seedAt (mi 78 rfl) ?_
              refine ex_iadd ok_X12_seedAt (mi 79 rfl) ?_
              refine ex_top (w := (nI (3 * a1 + 2))) (nI_add _ 2) ?_
              refine sm_iald ok_X12_seedAt (mi 80 rfl) (fk (MI_s J273) 53 rfl) (fn (MI_s J273) 53 rfl) rfl (by omega) (by decide) ?_
              obtain ⟨v276, hv276, ev276⟩ := vp_in_of (n := 300) (vb_in mk275.2.2.2.2.2.1 (by decide)) (by decide)
              refine ex_top (w := nI v276) ev276 ?_
              refine mf_B J273 ok_X12_seedAt (mi 81 rfl) (fk (MI_s J273) 37 rfl) (fn (MI_s J273) 37 rfl) rfl (by omega) (by decide) (B := 300) (by decide) (by decide) (by decide) (vp_in_nI (N := 300) (by omega) (by decide)) (fun g277 J278 K279 => ?_)
              have mk280 := KK_mk K279 mk275
              refine ex_iconst ok_X12_seedAt (mi 82 rfl) ?_
              refine ex_istore ok_X12_seedAt (mi 83 rfl) ?_
              have lp129 : ∀ n129 k129 : Nat, k129 + n129 = 300 → ∀ (g281 : GT), MI y D c R g281 → MK y g281 a1 18 m → ex_W G 2 0 0 M_X12_seedAt 129 [(0, .ref y), (1, .int (nI (a0))), (2, .int (nI (a1))), (3, .int w1), (4, .int (nI 1)), (5, .int (nI (k129)))] [] g281 (SM y D c R pN) := by
                intro n129
                induction n129 with
                | zero =>
                  intro k129 he129  g281 J282 mk129_0
                  obtain rfl : k129 = 300 := by omega
                  refine ex_iload ok_X12_seedAt (mi 84 rfl) rfl ?_
                  refine ex_sipush ok_X12_seedAt (mi 85 rfl) ?_
                  refine ex_icmp_ge (tgt := 157) ok_X12_seedAt (mi 86 rfl) rfl (fun _ => ?_) (fun hn => absurd (by decide) hn)
                  refine ex_iconst ok_X12_seedAt (mi 98 rfl) ?_
                  refine ex_istore ok_X12_seedAt (mi 99 rfl) ?_
                  have lp160 : ∀ n160 k160 : Nat, k160 + n160 = 300 → ∀ (g283 : GT), MI y D c R g283 → MK y g283 a1 18 m → ex_W G 2 0 0 M_X12_seedAt 160 [(0, .ref y), (1, .int (nI (a0))), (2, .int (nI (a1))), (3, .int w1), (4, .int (nI 1)), (5, .int (nI (k160)))] [] g283 (SM y D c R pN) := by
                    intro n160
                    induction n160 with
                    | zero =>
                      intro k160 he160  g283 J284 mk160_0
                      obtain rfl : k160 = 300 := by omega
                      refine ex_iload ok_X12_seedAt (mi 100 rfl) rfl ?_
                      refine ex_aload_n ok_X12_seedAt (mi 101 rfl) rfl ?_
                      refine ex_getRx ok_X12_seedAt (mi 102 rfl) rfl rfl (fk (MI_s J284) 0 rfl) (fr (MI_s J284) 53 rfl) (fk (MI_s J284) 54 rfl) (by decide) ?_
                      refine ex_iload_n ok_X12_seedAt (mi 103 rfl) rfl ?_
                      refine sm_iald ok_X12_seedAt (mi 104 rfl) (fk (MI_s J284) 54 rfl) (fn (MI_s J284) 54 rfl) rfl (by omega) (by decide) ?_
                      refine ex_top (w := nI m) mk160_0.2.2.2.2.2.2.2.2.1 ?_
                      refine ex_icmp_ge (tgt := 202) ok_X12_seedAt (mi 105 rfl) rfl (fun _ => ?_) (fun hn => absurd (nI_le (b := 300) (a := m) (by omega) (by omega)) hn)
                      refine ex_aload_n ok_X12_seedAt (mi 123 rfl) rfl ?_
                      refine ex_getRx ok_X12_seedAt (mi 124 rfl) rfl rfl (fk (MI_s J284) 0 rfl) (fr (MI_s J284) 38 rfl) (fk (MI_s J284) 39 rfl) (by decide) ?_
                      refine ex_iload_n ok_X12_seedAt (mi 125 rfl) rfl ?_
                      refine ex_iconst ok_X12_seedAt (mi 126 rfl) ?_
                      refine mf_A J284 ok_X12_seedAt (mi 127 rfl) (fk (MI_s J284) 39 rfl) (fn (MI_s J284) 39 rfl) rfl (by omega) (by decide) (by decide) (by decide) (by decide) (fun g285 J286 K287 => ?_)
                      have mk288 := KK_mk K287 mk160_0
                      refine ex_aload_n ok_X12_seedAt (mi 128 rfl) rfl ?_
                      refine ex_getRx ok_X12_seedAt (mi 129 rfl) rfl rfl (fk (MI_s J286) 0 rfl) (fr (MI_s J286) 39 rfl) (fk (MI_s J286) 40 rfl) (by decide) ?_
                      refine ex_iload_n ok_X12_seedAt (mi 130 rfl) rfl ?_
                      refine ex_iconst ok_X12_seedAt (mi 131 rfl) ?_
                      refine mf_A J286 ok_X12_seedAt (mi 132 rfl) (fk (MI_s J286) 40 rfl) (fn (MI_s J286) 40 rfl) rfl (by omega) (by decide) (by decide) (by decide) (by decide) (fun g289 J290 K291 => ?_)
                      have mk292 := KK_mk K291 mk288
                      refine ex_aload_n ok_X12_seedAt (mi 133 rfl) rfl ?_
                      refine ex_getRx ok_X12_seedAt (mi 134 rfl) rfl rfl (fk (MI_s J290) 0 rfl) (fr (MI_s J290) 40 rfl) (fk (MI_s J290) 41 rfl) (by decide) ?_
                      refine ex_iload_n ok_X12_seedAt (mi 135 rfl) rfl ?_
                      refine ex_iconst ok_X12_seedAt (mi 136 rfl) ?_
                      refine mf_B J290 ok_X12_seedAt (mi 137 rfl) (fk (MI_s J290) 41 rfl) (fn (MI_s J290) 41 rfl) rfl (by omega) (by decide) (B := 512) (by decide) (by decide) (by decide) (pk_in 0 512 (by decide)) (fun g293 J294 K295 => ?_)
                      have mk296 := KK_mk K295 mk292
                      refine ex_aload_n ok_X12_seedAt (mi 138 rfl) rfl ?_
                      refine ex_getRx ok_X12_seedAt (mi 139 rfl) rfl rfl (fk (MI_s J294) 0 rfl) (fr (MI_s J294) 41 rfl) (fk (MI_s J294) 42 rfl) (by decide) ?_
                      refine ex_iload_n ok_X12_seedAt (mi 140 rfl) rfl ?_
                      refine ex_iconst ok_X12_seedAt (mi 141 rfl) ?_
                      refine mf_B J294 ok_X12_seedAt (mi 142 rfl) (fk (MI_s J294) 42 rfl) (fn (MI_s J294) 42 rfl) rfl (by omega) (by decide) (B := 512) (by decide) (by decide) (by decide) (pk_in 0 512 (by decide)) (fun g297 J298 K299 => ?_)
                      have mk300 := KK_mk K299 mk296
                      refine ex_aload_n ok_X12_seedAt (mi 143 rfl) rfl ?_
                      refine ex_bipush ok_X12_seedAt (mi 144 rfl) ?_
                      refine ex_iload_n ok_X12_seedAt (mi 145 rfl) rfl ?_
                      refine ex_aload_n ok_X12_seedAt (mi 146 rfl) rfl ?_
                      refine ex_getRx ok_X12_seedAt (mi 147 rfl) rfl rfl (fk (MI_s J298) 0 rfl) (fr (MI_s J298) 50 rfl) (fk (MI_s J298) 51 rfl) (by decide) ?_
                      refine ex_iload_n ok_X12_seedAt (mi 148 rfl) rfl ?_
                      refine sm_iald ok_X12_seedAt (mi 149 rfl) (fk (MI_s J298) 51 rfl) (fn (MI_s J298) 51 rfl) rfl (by omega) (by decide) ?_
                      obtain ⟨v301, hv301, ev301⟩ := vp_in_of (n := 3) (vb_in mk300.2.2.1 (by decide)) (by decide)
                      refine ex_top (w := nI v301) ev301 ?_
                      refine ex_iload_n ok_X12_seedAt (mi 150 rfl) rfl ?_
                      refine ex_iconst ok_X12_seedAt (mi 151 rfl) ?_
                      refine ex_iconst ok_X12_seedAt (mi 152 rfl) ?_
                      refine sm_V (As := [_, _, _, _, _, _]) ok_X12_seedAt (mi 153 rfl) rfl (s_X12_lay hst J298 (κ := 19) (by decide) (Or.inl rfl) (Or.inr (vp_in_nI (N := 3) (by omega) (by decide))) (Or.inl rfl) (Or.inl rfl) (Or.inl rfl)) rfl (fk (MI_s J298) 0 rfl) rfl rfl (by decide) (by decide) (Nat.le_of_ble_eq_true rfl) (by decide) LV_no (fun z302 g304 p303 => ?_)
                      obtain ⟨b306, eb306, hb306, J305, lb306⟩ := p303
                      cases eb306
                      refine ex_istore ok_X12_seedAt (mi 154 rfl) ?_
                      refine ex_vret ok_X12_seedAt (mi 155 rfl) rfl ?_
                      exact ⟨_, rfl, rfl, J305⟩
                    | succ n160 ih160 =>
                      intro k160 he160  g283 J284 mk160_0
                      have hr160 : k160 < 300 := by omega
                      refine ex_iload ok_X12_seedAt (mi 100 rfl) rfl ?_
                      refine ex_aload_n ok_X12_seedAt (mi 101 rfl) rfl ?_
                      refine ex_getRx ok_X12_seedAt (mi 102 rfl) rfl rfl (fk (MI_s J284) 0 rfl) (fr (MI_s J284) 53 rfl) (fk (MI_s J284) 54 rfl) (by decide) ?_
                      refine ex_iload_n ok_X12_seedAt (mi 103 rfl) rfl ?_
                      refine sm_iald ok_X12_seedAt (mi 104 rfl) (fk (MI_s J284) 54 rfl) (fn (MI_s J284) 54 rfl) rfl (by omega) (by decide) ?_
                      refine ex_top (w := nI m) mk160_0.2.2.2.2.2.2.2.2.1 ?_
                      refine ex_icmp_ge (tgt := 202) ok_X12_seedAt (mi 105 rfl) rfl (fun h168 => ?_) (fun h168 => ?_)
                      · skip
                        refine ex_aload_n ok_X12_seedAt (mi 123 rfl) rfl ?_
                        refine ex_getRx ok_X12_seedAt (mi 124 rfl) rfl rfl (fk (MI_s J284) 0 rfl) (fr (MI_s J284) 38 rfl) (fk (MI_s J284) 39 rfl) (by decide) ?_
                        refine ex_iload_n ok_X12_seedAt (mi 125 rfl) rfl ?_
                        refine ex_iconst ok_X12_seedAt (mi 126 rfl) ?_
                        refine mf_A J284 ok_X12_seedAt (mi 127 rfl) (fk (MI_s J284) 39 rfl) (fn (MI_s J284) 39 rfl) rfl (by omega) (by decide) (by decide) (by decide) (by decide) (fun g307 J308 K309 => ?_)
                        have mk310 := KK_mk K309 mk160_0
                        refine ex_aload_n ok_X12_seedAt (mi 128 rfl) rfl ?_
                        refine ex_getRx ok_X12_seedAt (mi 129 rfl) rfl rfl (fk (MI_s J308) 0 rfl) (fr (MI_s J308) 39 rfl) (fk (MI_s J308) 40 rfl) (by decide) ?_
                        refine ex_iload_n ok_X12_seedAt (mi 130 rfl) rfl ?_
                        refine ex_iconst ok_X12_seedAt (mi 131 rfl) ?_
                        refine mf_A J308 ok_X12_seedAt (mi 132 rfl) (fk (MI_s J308) 40 rfl) (fn (MI_s J308) 40 rfl) rfl (by omega) (by decide) (by decide) (by decide) (by decide) (fun g311 J312 K313 => ?_)
                        have mk314 := KK_mk K313 mk310
                        refine ex_aload_n ok_X12_seedAt (mi 133 rfl) rfl ?_
                        refine ex_getRx ok_X12_seedAt (mi 134 rfl) rfl rfl (fk (MI_s J312) 0 rfl) (fr (MI_s J312) 40 rfl) (fk (MI_s J312) 41 rfl) (by decide) ?_
                        refine ex_iload_n ok_X12_seedAt (mi 135 rfl) rfl ?_
                        refine ex_iconst ok_X12_seedAt (mi 136 rfl) ?_
                        refine mf_B J312 ok_X12_seedAt (mi 137 rfl) (fk (MI_s J312) 41 rfl) (fn (MI_s J312) 41 rfl) rfl (by omega) (by decide) (B := 512) (by decide) (by decide) (by decide) (pk_in 0 512 (by decide)) (fun g315 J316 K317 => ?_)
                        have mk318 := KK_mk K317 mk314
                        refine ex_aload_n ok_X12_seedAt (mi 138 rfl) rfl ?_
                        refine ex_getRx ok_X12_seedAt (mi 139 rfl) rfl rfl (fk (MI_s J316) 0 rfl) (fr (MI_s J316) 41 rfl) (fk (MI_s J316) 42 rfl) (by decide) ?_
                        refine ex_iload_n ok_X12_seedAt (mi 140 rfl) rfl ?_
                        refine ex_iconst ok_X12_seedAt (mi 141 rfl) ?_
                        refine mf_B J316 ok_X12_seedAt (mi 142 rfl) (fk (MI_s J316) 42 rfl) (fn (MI_s J316) 42 rfl) rfl (by omega) (by decide) (B := 512) (by decide) (by decide) (by decide) (pk_in 0 512 (by decide)) (fun g319 J320 K321 => ?_)
                        have mk322 := KK_mk K321 mk318
                        refine ex_aload_n ok_X12_seedAt (mi 143 rfl) rfl ?_
                        refine ex_bipush ok_X12_seedAt (mi 144 rfl) ?_
                        refine ex_iload_n ok_X12_seedAt (mi 145 rfl) rfl ?_
                        refine ex_aload_n ok_X12_seedAt (mi 146 rfl) rfl ?_
                        refine ex_getRx ok_X12_seedAt (mi 147 rfl) rfl rfl (fk (MI_s J320) 0 rfl) (fr (MI_s J320) 50 rfl) (fk (MI_s J320) 51 rfl) (by decide) ?_
                        refine ex_iload_n ok_X12_seedAt (mi 148 rfl) rfl ?_
                        refine sm_iald ok_X12_seedAt (mi 149 rfl) (fk (MI_s J320) 51 rfl) (fn (MI_s J320) 51 rfl) rfl (by omega) (by decide) ?_
                        obtain ⟨v323, hv323, ev323⟩ := vp_in_of (n := 3) (vb_in mk322.2.2.1 (by decide)) (by decide)
                        refine ex_top (w := nI v323) ev323 ?_
                        refine ex_iload_n ok_X12_seedAt (mi 150 rfl) rfl ?_
                        refine ex_iconst ok_X12_seedAt (mi 151 rfl) ?_
                        refine ex_iconst ok_X12_seedAt (mi 152 rfl) ?_
                        refine sm_V (As := [_, _, _, _, _, _]) ok_X12_seedAt (mi 153 rfl) rfl (s_X12_lay hst J320 (κ := 19) (by decide) (Or.inl rfl) (Or.inr (vp_in_nI (N := 3) (by omega) (by decide))) (Or.inl rfl) (Or.inl rfl) (Or.inl rfl)) rfl (fk (MI_s J320) 0 rfl) rfl rfl (by decide) (by decide) (Nat.le_of_ble_eq_true rfl) (by decide) LV_no (fun z324 g326 p325 => ?_)
                        obtain ⟨b328, eb328, hb328, J327, lb328⟩ := p325
                        cases eb328
                        refine ex_istore ok_X12_seedAt (mi 154 rfl) ?_
                        refine ex_vret ok_X12_seedAt (mi 155 rfl) rfl ?_
                        exact ⟨_, rfl, rfl, J327⟩
                      · skip
                        have l168 : k160 < m := Nat.lt_of_not_le (fun q => h168 (nI_le q (by omega)))
                        refine ex_aload_n ok_X12_seedAt (mi 106 rfl) rfl ?_
                        refine ex_getRx ok_X12_seedAt (mi 107 rfl) rfl rfl (fk (MI_s J284) 0 rfl) (fr (MI_s J284) 37 rfl) (fk (MI_s J284) 38 rfl) (by decide) ?_
                        refine ex_sipush ok_X12_seedAt (mi 108 rfl) ?_
                        refine ex_iload_n ok_X12_seedAt (mi 109 rfl) rfl ?_
                        refine ex_imul ok_X12_seedAt (mi 110 rfl) ?_
                        refine ex_top (w := (nI (300 * a0))) (nI_mulc rfl) ?_
                        refine ex_aload_n ok_X12_seedAt (mi 111 rfl) rfl ?_
                        refine ex_iload_n ok_X12_seedAt (mi 112 rfl) rfl ?_
                        refine ex_iload ok_X12_seedAt (mi 113 rfl) rfl ?_
                        refine sf_Vp (As := [_, _]) ok_X12_seedAt (mi 114 rfl) rfl (s_entryRound hst (MI_s J284) (m := m) (by omega) (by omega) (by omega) (mk160_0.2.2.2.2.2.2.2.2.2.1 (by decide))) rfl (fk (MI_s J284) 0 rfl) rfl rfl (by decide) (by decide) (Nat.le_of_ble_eq_true rfl) (by decide) (fun z329 p330 => ?_)
                        obtain ⟨v333, hv333, rfl⟩ := p330
                        refine ex_iadd ok_X12_seedAt (mi 115 rfl) ?_
                        refine ex_top (w := (nI (300 * a0 + v333))) (nI_add _ _) ?_
                        refine ex_aload_n ok_X12_seedAt (mi 116 rfl) rfl ?_
                        refine ex_iload_n ok_X12_seedAt (mi 117 rfl) rfl ?_
                        refine ex_iload ok_X12_seedAt (mi 118 rfl) rfl ?_
                        refine sf_Vp (As := [_, _]) ok_X12_seedAt (mi 119 rfl) rfl (s_entryGroup hst (MI_s J284) (m := m) (by omega) (by omega) (by omega)) rfl (fk (MI_s J284) 0 rfl) rfl rfl (by decide) (by decide) (Nat.le_of_ble_eq_true rfl) (by decide) (fun z334 p335 => ?_)
                        obtain ⟨v338, rfl⟩ := p335
                        refine mf_A J284 ok_X12_seedAt (mi 120 rfl) (fk (MI_s J284) 38 rfl) (fn (MI_s J284) 38 rfl) rfl (by omega) (by decide) (by decide) (by decide) (by decide) (fun g339 J340 K341 => ?_)
                        have mk342 := KK_mk K341 mk160_0
                        refine ex_iincx (w := (nI (k160 + 1))) ok_X12_seedAt (mi 121 rfl) rfl (nI_1 _) ?_
                        refine ex_goto (tgt := 160) ok_X12_seedAt (mi 122 rfl) rfl ?_
                        exact ex_ls (ls' := [(0, .ref y), (1, .int (nI (a0))), (2, .int (nI (a1))), (3, .int w1), (4, .int (nI 1)), (5, .int (nI (k160 + 1)))]) ⟨rfl, rfl, rfl, rfl, rfl, rfl, trivial⟩ (ih160 (k160 + 1) (by omega) g339 J340 mk342)
                  exact ex_ls (ls' := [(0, .ref y), (1, .int (nI (a0))), (2, .int (nI (a1))), (3, .int w1), (4, .int (nI 1)), (5, .int (nI 0))]) ⟨rfl, rfl, rfl, rfl, rfl, rfl, trivial⟩ (lp160 (300 - 0) (0) (by omega) g281 J282 mk129_0)
                | succ n129 ih129 =>
                  intro k129 he129  g281 J282 mk129_0
                  have hr129 : k129 < 300 := by omega
                  refine ex_iload ok_X12_seedAt (mi 84 rfl) rfl ?_
                  refine ex_sipush ok_X12_seedAt (mi 85 rfl) ?_
                  refine ex_icmp_ge (tgt := 157) ok_X12_seedAt (mi 86 rfl) rfl (fun hn => absurd hn (nI_ge (b := 300) hr129 (by decide))) (fun _ => ?_)
                  refine ex_aload_n ok_X12_seedAt (mi 87 rfl) rfl ?_
                  refine ex_getRx ok_X12_seedAt (mi 88 rfl) rfl rfl (fk (MI_s J282) 0 rfl) (fr (MI_s J282) 37 rfl) (fk (MI_s J282) 38 rfl) (by decide) ?_
                  refine ex_sipush ok_X12_seedAt (mi 89 rfl) ?_
                  refine ex_iload_n ok_X12_seedAt (mi 90 rfl) rfl ?_
                  refine ex_imul ok_X12_seedAt (mi 91 rfl) ?_
                  refine ex_top (w := (nI (300 * a0))) (nI_mulc rfl) ?_
                  refine ex_iload ok_X12_seedAt (mi 92 rfl) rfl ?_
                  refine ex_iadd ok_X12_seedAt (mi 93 rfl) ?_
                  refine ex_top (w := (nI (300 * a0 + k129))) (nI_add _ _) ?_
                  refine ex_iconst ok_X12_seedAt (mi 94 rfl) ?_
                  refine mf_A J282 ok_X12_seedAt (mi 95 rfl) (fk (MI_s J282) 38 rfl) (fn (MI_s J282) 38 rfl) rfl (by omega) (by decide) (by decide) (by decide) (by decide) (fun g343 J344 K345 => ?_)
                  have mk346 := KK_mk K345 mk129_0
                  refine ex_iincx (w := (nI (k129 + 1))) ok_X12_seedAt (mi 96 rfl) rfl (nI_1 _) ?_
                  refine ex_goto (tgt := 129) ok_X12_seedAt (mi 97 rfl) rfl ?_
                  exact ex_ls (ls' := [(0, .ref y), (1, .int (nI (a0))), (2, .int (nI (a1))), (3, .int w1), (4, .int (nI 1)), (5, .int (nI (k129 + 1)))]) ⟨rfl, rfl, rfl, rfl, rfl, rfl, trivial⟩ (ih129 (k129 + 1) (by omega) g343 J344 mk346)
              exact ex_ls (ls' := [(0, .ref y), (1, .int (nI (a0))), (2, .int (nI (a1))), (3, .int w1), (4, .int (nI 1)), (5, .int (nI 0))]) ⟨rfl, rfl, rfl, rfl, rfl, rfl, trivial⟩ (lp129 (300 - 0) (0) (by omega) g277 J278 mk280)
theorem s_X12_reckon {G : GE} (hst : (ge_l G).stackTraces = false) {y c : Nat} {D : UT} {R : Nat → Prop} {g : GT} (I : MI y D c R g) {a0 : Nat} (ha0 : a0 < 12) {a1 : Nat} (ha1 : a1 < 300) {a2 : Nat} (ha2 : a2 < 16) {p3 : Int32} : ex_M G 3 0 0 my_X12_reckon [.ref y, .int (nI (a0)), .int (nI (a1)), .int (nI (a2)), .int p3] g (SM y D c R pN) := by
  refine ex_M_of ok_X12_reckon cw_X12_reckon rfl hst (Nat.le_of_ble_eq_true rfl) ?_
  refine ex_bipush ok_X12_reckon (mi 0 rfl) ?_
  refine ex_iload_n ok_X12_reckon (mi 1 rfl) rfl ?_
  refine ex_imul ok_X12_reckon (mi 2 rfl) ?_
  refine ex_top (w := (nI (16 * a1))) (nI_mulc rfl) ?_
  refine ex_iload_n ok_X12_reckon (mi 3 rfl) rfl ?_
  refine ex_iadd ok_X12_reckon (mi 4 rfl) ?_
  refine ex_top (w := (nI (16 * a1 + a2))) (nI_add _ _) ?_
  refine ex_istore ok_X12_reckon (mi 5 rfl) ?_
  refine ex_aload_n ok_X12_reckon (mi 6 rfl) rfl ?_
  refine ex_getRx ok_X12_reckon (mi 7 rfl) rfl rfl (fk (MI_s I) 0 rfl) (fr (MI_s I) 57 rfl) (fk (MI_s I) 58 rfl) (by decide) ?_
  refine ex_iload ok_X12_reckon (mi 8 rfl) rfl ?_
  refine sm_iald ok_X12_reckon (mi 9 rfl) (fk (MI_s I) 58 rfl) (fn (MI_s I) 58 rfl) rfl (by omega) (by decide) ?_
  refine ex_gen (fun w1 => ?_)
  refine ex_aload_n ok_X12_reckon (mi 10 rfl) rfl ?_
  refine ex_getRx ok_X12_reckon (mi 11 rfl) rfl rfl (fk (MI_s I) 0 rfl) (fr (MI_s I) 56 rfl) (fk (MI_s I) 57 rfl) (by decide) ?_
  refine ex_iload_n ok_X12_reckon (mi 12 rfl) rfl ?_
  refine sm_iald ok_X12_reckon (mi 13 rfl) (fk (MI_s I) 57 rfl) (fn (MI_s I) 57 rfl) rfl (by omega) (by decide) ?_
  refine ex_gen (fun w2 => ?_)
  refine sf_Sp (As := [_, _]) ok_X12_reckon (mi 14 rfl) rfl (s_X12_isMajority hst (MI_s I)) rfl rfl rfl (by decide) (Nat.le_of_ble_eq_true rfl) (by decide) (fun z3 p4 => ?_)
  obtain ⟨v7, rfl, hbv7⟩ := p4
  refine ex_istore ok_X12_reckon (mi 15 rfl) ?_
  refine ex_aload_n ok_X12_reckon (mi 16 rfl) rfl ?_
  refine ex_getRx ok_X12_reckon (mi 17 rfl) rfl rfl (fk (MI_s I) 0 rfl) (fr (MI_s I) 57 rfl) (fk (MI_s I) 58 rfl) (by decide) ?_
  refine ex_iload ok_X12_reckon (mi 18 rfl) rfl ?_
  refine ex_dup2 ok_X12_reckon (mi 19 rfl) rfl rfl ?_
  refine sm_iald ok_X12_reckon (mi 20 rfl) (fk (MI_s I) 58 rfl) (fn (MI_s I) 58 rfl) rfl (by omega) (by decide) ?_
  refine ex_gen (fun w8 => ?_)
  refine ex_iconst ok_X12_reckon (mi 21 rfl) ?_
  refine ex_iload_n ok_X12_reckon (mi 22 rfl) rfl ?_
  refine ex_ishl ok_X12_reckon (mi 23 rfl) ?_
  refine ex_gen (fun w9 => ?_)
  refine ex_ior ok_X12_reckon (mi 24 rfl) ?_
  refine ex_gen (fun w10 => ?_)
  refine mf_A I ok_X12_reckon (mi 25 rfl) (fk (MI_s I) 58 rfl) (fn (MI_s I) 58 rfl) rfl (by omega) (by decide) (by decide) (by decide) (by decide) (fun g11 J12 K13 => ?_)
  refine ex_iload ok_X12_reckon (mi 26 rfl) rfl ?_
  refine ex_if_ne (tgt := 63) ok_X12_reckon (mi 27 rfl) rfl (fun h41 => ?_) (fun h41 => ?_)
  · skip
    refine ex_vret ok_X12_reckon (mi 38 rfl) rfl ?_
    exact ⟨_, rfl, rfl, J12⟩
  · skip
    refine ex_aload_n ok_X12_reckon (mi 28 rfl) rfl ?_
    refine ex_getRx ok_X12_reckon (mi 29 rfl) rfl rfl (fk (MI_s J12) 0 rfl) (fr (MI_s J12) 57 rfl) (fk (MI_s J12) 58 rfl) (by decide) ?_
    refine ex_iload ok_X12_reckon (mi 30 rfl) rfl ?_
    refine sm_iald ok_X12_reckon (mi 31 rfl) (fk (MI_s J12) 58 rfl) (fn (MI_s J12) 58 rfl) rfl (by omega) (by decide) ?_
    refine ex_gen (fun w14 => ?_)
    refine ex_aload_n ok_X12_reckon (mi 32 rfl) rfl ?_
    refine ex_getRx ok_X12_reckon (mi 33 rfl) rfl rfl (fk (MI_s J12) 0 rfl) (fr (MI_s J12) 56 rfl) (fk (MI_s J12) 57 rfl) (by decide) ?_
    refine ex_iload_n ok_X12_reckon (mi 34 rfl) rfl ?_
    refine sm_iald ok_X12_reckon (mi 35 rfl) (fk (MI_s J12) 57 rfl) (fn (MI_s J12) 57 rfl) rfl (by omega) (by decide) ?_
    refine ex_gen (fun w15 => ?_)
    refine sf_Sp (As := [_, _]) ok_X12_reckon (mi 36 rfl) rfl (s_X12_isMajority hst (MI_s J12)) rfl rfl rfl (by decide) (Nat.le_of_ble_eq_true rfl) (by decide) (fun z16 p17 => ?_)
    obtain ⟨v20, rfl, hbv20⟩ := p17
    refine ex_if_ne (tgt := 64) ok_X12_reckon (mi 37 rfl) rfl (fun h60 => ?_) (fun h60 => ?_)
    · skip
      refine ex_aload_n ok_X12_reckon (mi 39 rfl) rfl ?_
      refine ex_getRx ok_X12_reckon (mi 40 rfl) rfl rfl (fk (MI_s J12) 0 rfl) (fr (MI_s J12) 58 rfl) (fk (MI_s J12) 59 rfl) (by decide) ?_
      refine ex_iload_n ok_X12_reckon (mi 41 rfl) rfl ?_
      refine sm_iald ok_X12_reckon (mi 42 rfl) (fk (MI_s J12) 59 rfl) (fn (MI_s J12) 59 rfl) rfl (by omega) (by decide) ?_
      refine ex_gen (fun w21 => ?_)
      refine ex_iconst ok_X12_reckon (mi 43 rfl) ?_
      refine ex_icmp_ne (tgt := 85) ok_X12_reckon (mi 44 rfl) rfl (fun h71 => ?_) (fun h71 => ?_)
      · skip
        refine ex_aload_n ok_X12_reckon (mi 51 rfl) rfl ?_
        refine ex_getRx ok_X12_reckon (mi 52 rfl) rfl rfl (fk (MI_s J12) 0 rfl) (fr (MI_s J12) 58 rfl) (fk (MI_s J12) 59 rfl) (by decide) ?_
        refine ex_iload_n ok_X12_reckon (mi 53 rfl) rfl ?_
        refine sm_iald ok_X12_reckon (mi 54 rfl) (fk (MI_s J12) 59 rfl) (fn (MI_s J12) 59 rfl) rfl (by omega) (by decide) ?_
        refine ex_gen (fun w22 => ?_)
        refine ex_iload ok_X12_reckon (mi 55 rfl) rfl ?_
        refine ex_icmp_eq (tgt := 106) ok_X12_reckon (mi 56 rfl) rfl (fun h93 => ?_) (fun h93 => ?_)
        · skip
          refine ex_vret ok_X12_reckon (mi 63 rfl) rfl ?_
          exact ⟨_, rfl, rfl, J12⟩
        · skip
          refine ex_aload_n ok_X12_reckon (mi 57 rfl) rfl ?_
          refine ex_dup ok_X12_reckon (mi 58 rfl) rfl ?_
          refine ex_getI ok_X12_reckon (mi 59 rfl) rfl rfl (fk (MI_s J12) 0 rfl) ?_
          refine ex_gen (fun w23 => ?_)
          refine ex_iconst ok_X12_reckon (mi 60 rfl) ?_
          refine ex_iadd ok_X12_reckon (mi 61 rfl) ?_
          refine ex_gen (fun w24 => ?_)
          refine mf_putI J12 ok_X12_reckon (mi 62 rfl) rfl rfl (fk (MI_s J12) 0 rfl) (by decide) (by decide) (fun g25 J26 K27 => ?_)
          refine ex_vret ok_X12_reckon (mi 63 rfl) rfl ?_
          exact ⟨_, rfl, rfl, J26⟩
      · skip
        refine ex_aload_n ok_X12_reckon (mi 45 rfl) rfl ?_
        refine ex_getRx ok_X12_reckon (mi 46 rfl) rfl rfl (fk (MI_s J12) 0 rfl) (fr (MI_s J12) 58 rfl) (fk (MI_s J12) 59 rfl) (by decide) ?_
        refine ex_iload_n ok_X12_reckon (mi 47 rfl) rfl ?_
        refine ex_iload ok_X12_reckon (mi 48 rfl) rfl ?_
        refine mf_A J12 ok_X12_reckon (mi 49 rfl) (fk (MI_s J12) 59 rfl) (fn (MI_s J12) 59 rfl) rfl (by omega) (by decide) (by decide) (by decide) (by decide) (fun g28 J29 K30 => ?_)
        refine ex_goto (tgt := 106) ok_X12_reckon (mi 50 rfl) rfl ?_
        refine ex_vret ok_X12_reckon (mi 63 rfl) rfl ?_
        exact ⟨_, rfl, rfl, J29⟩
    · skip
      refine ex_vret ok_X12_reckon (mi 38 rfl) rfl ?_
      exact ⟨_, rfl, rfl, J12⟩
theorem s_X12_toCopy {G : GE} (hst : (ge_l G).stackTraces = false) {y c : Nat} {D : UT} {R : Nat → Prop} {g : GT} (I : MI y D c R g) {a0 : Nat} (ha0 : a0 < 3) {a1 : Nat} (ha1 : a1 < 402) {m : Nat} (hmk : MK y g a1 7 m) : ex_M G 2 0 0 my_X12_toCopy [.ref y, .int (nI (a0)), .int (nI (a1))] g (SM y D c R pN) := by
  refine ex_M_of ok_X12_toCopy cw_X12_toCopy rfl hst (Nat.le_of_ble_eq_true rfl) ?_
  have hm3 : m < 301 := hmk.2.2.2.2.2.2.2.1
  refine ex_aload_n ok_X12_toCopy (mi 0 rfl) rfl ?_
  refine ex_getRx ok_X12_toCopy (mi 1 rfl) rfl rfl (fk (MI_s I) 0 rfl) (fr (MI_s I) 52 rfl) (fk (MI_s I) 53 rfl) (by decide) ?_
  refine ex_iconst ok_X12_toCopy (mi 2 rfl) ?_
  refine ex_iload_n ok_X12_toCopy (mi 3 rfl) rfl ?_
  refine ex_imul ok_X12_toCopy (mi 4 rfl) ?_
  refine ex_top (w := (nI (3 * a1))) (nI_mulc rfl) ?_
  refine sm_iald ok_X12_toCopy (mi 5 rfl) (fk (MI_s I) 53 rfl) (fn (MI_s I) 53 rfl) rfl (by omega) (by decide) ?_
  obtain ⟨v1, hv1, ev1⟩ := vp_in_of (n := 16) (vb_in hmk.2.2.2.1 (by decide)) (by decide)
  refine ex_top (w := nI v1) ev1 ?_
  refine ex_istore_n ok_X12_toCopy (mi 6 rfl) ?_
  refine ex_aload_n ok_X12_toCopy (mi 7 rfl) rfl ?_
  refine ex_getRx ok_X12_toCopy (mi 8 rfl) rfl rfl (fk (MI_s I) 0 rfl) (fr (MI_s I) 52 rfl) (fk (MI_s I) 53 rfl) (by decide) ?_
  refine ex_iconst ok_X12_toCopy (mi 9 rfl) ?_
  refine ex_iload_n ok_X12_toCopy (mi 10 rfl) rfl ?_
  refine ex_imul ok_X12_toCopy (mi 11 rfl) ?_
  refine ex_top (w := (nI (3 * a1))) (nI_mulc rfl) ?_
  refine ex_iconst ok_X12_toCopy (mi 12 rfl) ?_
  refine ex_iadd ok_X12_toCopy (mi 13 rfl) ?_
  refine ex_top (w := (nI (3 * a1 + 1))) (nI_add _ 1) ?_
  refine sm_iald ok_X12_toCopy (mi 14 rfl) (fk (MI_s I) 53 rfl) (fn (MI_s I) 53 rfl) rfl (by omega) (by decide) ?_
  refine ex_gen (fun w2 => ?_)
  refine ex_istore ok_X12_toCopy (mi 15 rfl) ?_
  refine ex_aload_n ok_X12_toCopy (mi 16 rfl) rfl ?_
  refine ex_getRx ok_X12_toCopy (mi 17 rfl) rfl rfl (fk (MI_s I) 0 rfl) (fr (MI_s I) 46 rfl) (fk (MI_s I) 47 rfl) (by decide) ?_
  refine ex_bipush ok_X12_toCopy (mi 18 rfl) ?_
  refine ex_iload_n ok_X12_toCopy (mi 19 rfl) rfl ?_
  refine ex_imul ok_X12_toCopy (mi 20 rfl) ?_
  refine ex_top (w := (nI (16 * a0))) (nI_mulc rfl) ?_
  refine ex_iload_n ok_X12_toCopy (mi 21 rfl) rfl ?_
  refine ex_iadd ok_X12_toCopy (mi 22 rfl) ?_
  refine ex_top (w := (nI (16 * a0 + v1))) (nI_add _ _) ?_
  refine sm_iald ok_X12_toCopy (mi 23 rfl) (fk (MI_s I) 47 rfl) (fn (MI_s I) 47 rfl) rfl (by omega) (by decide) ?_
  refine ex_gen (fun w3 => ?_)
  refine ex_iconst ok_X12_toCopy (mi 24 rfl) ?_
  refine ex_icmp_ne (tgt := 49) ok_X12_toCopy (mi 25 rfl) rfl (fun h33 => ?_) (fun h33 => ?_)
  · skip
    refine ex_aload_n ok_X12_toCopy (mi 35 rfl) rfl ?_
    refine ex_dup ok_X12_toCopy (mi 36 rfl) rfl ?_
    refine ex_getI ok_X12_toCopy (mi 37 rfl) rfl rfl (fk (MI_s I) 0 rfl) ?_
    refine ex_gen (fun w4 => ?_)
    refine ex_aload_n ok_X12_toCopy (mi 38 rfl) rfl ?_
    refine ex_getRx ok_X12_toCopy (mi 39 rfl) rfl rfl (fk (MI_s I) 0 rfl) (fr (MI_s I) 46 rfl) (fk (MI_s I) 47 rfl) (by decide) ?_
    refine ex_bipush ok_X12_toCopy (mi 40 rfl) ?_
    refine ex_iload_n ok_X12_toCopy (mi 41 rfl) rfl ?_
    refine ex_imul ok_X12_toCopy (mi 42 rfl) ?_
    refine ex_top (w := (nI (16 * a0))) (nI_mulc rfl) ?_
    refine ex_iload_n ok_X12_toCopy (mi 43 rfl) rfl ?_
    refine ex_iadd ok_X12_toCopy (mi 44 rfl) ?_
    refine ex_top (w := (nI (16 * a0 + v1))) (nI_add _ _) ?_
    refine sm_iald ok_X12_toCopy (mi 45 rfl) (fk (MI_s I) 47 rfl) (fn (MI_s I) 47 rfl) rfl (by omega) (by decide) ?_
    refine ex_gen (fun w5 => ?_)
    refine ex_iload ok_X12_toCopy (mi 46 rfl) rfl ?_
    refine ex_icmp_ne (tgt := 74) ok_X12_toCopy (mi 47 rfl) rfl (fun h67 => ?_) (fun h67 => ?_)
    · skip
      refine ex_iconst ok_X12_toCopy (mi 50 rfl) ?_
      refine ex_iadd ok_X12_toCopy (mi 51 rfl) ?_
      refine ex_gen (fun w6 => ?_)
      refine mf_putI I ok_X12_toCopy (mi 52 rfl) rfl rfl (fk (MI_s I) 0 rfl) (by decide) (by decide) (fun g7 J8 K9 => ?_)
      have mk10 := KK_mk K9 hmk
      refine ex_aload_n ok_X12_toCopy (mi 53 rfl) rfl ?_
      refine ex_bipush ok_X12_toCopy (mi 54 rfl) ?_
      refine ex_iload_n ok_X12_toCopy (mi 55 rfl) rfl ?_
      refine ex_aload_n ok_X12_toCopy (mi 56 rfl) rfl ?_
      refine ex_getRx ok_X12_toCopy (mi 57 rfl) rfl rfl (fk (MI_s J8) 0 rfl) (fr (MI_s J8) 50 rfl) (fk (MI_s J8) 51 rfl) (by decide) ?_
      refine ex_iload_n ok_X12_toCopy (mi 58 rfl) rfl ?_
      refine sm_iald ok_X12_toCopy (mi 59 rfl) (fk (MI_s J8) 51 rfl) (fn (MI_s J8) 51 rfl) rfl (by omega) (by decide) ?_
      obtain ⟨v11, hv11, ev11⟩ := vp_in_of (n := 3) (vb_in mk10.2.2.1 (by decide)) (by decide)
      refine ex_top (w := nI v11) ev11 ?_
      refine ex_iload_n ok_X12_toCopy (mi 60 rfl) rfl ?_
      refine ex_aload_n ok_X12_toCopy (mi 61 rfl) rfl ?_
      refine ex_getRx ok_X12_toCopy (mi 62 rfl) rfl rfl (fk (MI_s J8) 0 rfl) (fr (MI_s J8) 46 rfl) (fk (MI_s J8) 47 rfl) (by decide) ?_
      refine ex_bipush ok_X12_toCopy (mi 63 rfl) ?_
      refine ex_iload_n ok_X12_toCopy (mi 64 rfl) rfl ?_
      refine ex_imul ok_X12_toCopy (mi 65 rfl) ?_
      refine ex_top (w := (nI (16 * a0))) (nI_mulc rfl) ?_
      refine ex_iload_n ok_X12_toCopy (mi 66 rfl) rfl ?_
      refine ex_iadd ok_X12_toCopy (mi 67 rfl) ?_
      refine ex_top (w := (nI (16 * a0 + v1))) (nI_add _ _) ?_
      refine sm_iald ok_X12_toCopy (mi 68 rfl) (fk (MI_s J8) 47 rfl) (fn (MI_s J8) 47 rfl) rfl (by omega) (by decide) ?_
      refine ex_gen (fun w12 => ?_)
      refine ex_iconst ok_X12_toCopy (mi 69 rfl) ?_
      refine sm_V (As := [_, _, _, _, _, _]) ok_X12_toCopy (mi 70 rfl) rfl (s_X12_lay hst J8 (κ := 8) (by decide) (Or.inl rfl) (Or.inr (vp_in_nI (N := 3) (by omega) (by decide))) (Or.inr (vp_in_nI (N := 16) (by omega) (by decide))) (Or.inl rfl) (Or.inl rfl)) rfl (fk (MI_s J8) 0 rfl) rfl rfl (by decide) (by decide) (Nat.le_of_ble_eq_true rfl) (by decide) LV_no (fun z13 g15 p14 => ?_)
      obtain ⟨b17, eb17, hb17, J16, lb17⟩ := p14
      cases eb17
      refine ex_istore ok_X12_toCopy (mi 71 rfl) ?_
      refine ex_vret ok_X12_toCopy (mi 72 rfl) rfl ?_
      exact ⟨_, rfl, rfl, J16⟩
    · skip
      refine ex_iconst ok_X12_toCopy (mi 48 rfl) ?_
      refine ex_goto (tgt := 75) ok_X12_toCopy (mi 49 rfl) rfl ?_
      refine ex_iadd ok_X12_toCopy (mi 51 rfl) ?_
      refine ex_gen (fun w18 => ?_)
      refine mf_putI I ok_X12_toCopy (mi 52 rfl) rfl rfl (fk (MI_s I) 0 rfl) (by decide) (by decide) (fun g19 J20 K21 => ?_)
      have mk22 := KK_mk K21 hmk
      refine ex_aload_n ok_X12_toCopy (mi 53 rfl) rfl ?_
      refine ex_bipush ok_X12_toCopy (mi 54 rfl) ?_
      refine ex_iload_n ok_X12_toCopy (mi 55 rfl) rfl ?_
      refine ex_aload_n ok_X12_toCopy (mi 56 rfl) rfl ?_
      refine ex_getRx ok_X12_toCopy (mi 57 rfl) rfl rfl (fk (MI_s J20) 0 rfl) (fr (MI_s J20) 50 rfl) (fk (MI_s J20) 51 rfl) (by decide) ?_
      refine ex_iload_n ok_X12_toCopy (mi 58 rfl) rfl ?_
      refine sm_iald ok_X12_toCopy (mi 59 rfl) (fk (MI_s J20) 51 rfl) (fn (MI_s J20) 51 rfl) rfl (by omega) (by decide) ?_
      obtain ⟨v23, hv23, ev23⟩ := vp_in_of (n := 3) (vb_in mk22.2.2.1 (by decide)) (by decide)
      refine ex_top (w := nI v23) ev23 ?_
      refine ex_iload_n ok_X12_toCopy (mi 60 rfl) rfl ?_
      refine ex_aload_n ok_X12_toCopy (mi 61 rfl) rfl ?_
      refine ex_getRx ok_X12_toCopy (mi 62 rfl) rfl rfl (fk (MI_s J20) 0 rfl) (fr (MI_s J20) 46 rfl) (fk (MI_s J20) 47 rfl) (by decide) ?_
      refine ex_bipush ok_X12_toCopy (mi 63 rfl) ?_
      refine ex_iload_n ok_X12_toCopy (mi 64 rfl) rfl ?_
      refine ex_imul ok_X12_toCopy (mi 65 rfl) ?_
      refine ex_top (w := (nI (16 * a0))) (nI_mulc rfl) ?_
      refine ex_iload_n ok_X12_toCopy (mi 66 rfl) rfl ?_
      refine ex_iadd ok_X12_toCopy (mi 67 rfl) ?_
      refine ex_top (w := (nI (16 * a0 + v1))) (nI_add _ _) ?_
      refine sm_iald ok_X12_toCopy (mi 68 rfl) (fk (MI_s J20) 47 rfl) (fn (MI_s J20) 47 rfl) rfl (by omega) (by decide) ?_
      refine ex_gen (fun w24 => ?_)
      refine ex_iconst ok_X12_toCopy (mi 69 rfl) ?_
      refine sm_V (As := [_, _, _, _, _, _]) ok_X12_toCopy (mi 70 rfl) rfl (s_X12_lay hst J20 (κ := 8) (by decide) (Or.inl rfl) (Or.inr (vp_in_nI (N := 3) (by omega) (by decide))) (Or.inr (vp_in_nI (N := 16) (by omega) (by decide))) (Or.inl rfl) (Or.inl rfl)) rfl (fk (MI_s J20) 0 rfl) rfl rfl (by decide) (by decide) (Nat.le_of_ble_eq_true rfl) (by decide) LV_no (fun z25 g27 p26 => ?_)
      obtain ⟨b29, eb29, hb29, J28, lb29⟩ := p26
      cases eb29
      refine ex_istore ok_X12_toCopy (mi 71 rfl) ?_
      refine ex_vret ok_X12_toCopy (mi 72 rfl) rfl ?_
      exact ⟨_, rfl, rfl, J28⟩
  · skip
    refine ex_aload_n ok_X12_toCopy (mi 26 rfl) rfl ?_
    refine ex_getRx ok_X12_toCopy (mi 27 rfl) rfl rfl (fk (MI_s I) 0 rfl) (fr (MI_s I) 46 rfl) (fk (MI_s I) 47 rfl) (by decide) ?_
    refine ex_bipush ok_X12_toCopy (mi 28 rfl) ?_
    refine ex_iload_n ok_X12_toCopy (mi 29 rfl) rfl ?_
    refine ex_imul ok_X12_toCopy (mi 30 rfl) ?_
    refine ex_top (w := (nI (16 * a0))) (nI_mulc rfl) ?_
    refine ex_iload_n ok_X12_toCopy (mi 31 rfl) rfl ?_
    refine ex_iadd ok_X12_toCopy (mi 32 rfl) ?_
    refine ex_top (w := (nI (16 * a0 + v1))) (nI_add _ _) ?_
    refine ex_iload ok_X12_toCopy (mi 33 rfl) rfl ?_
    refine mf_A I ok_X12_toCopy (mi 34 rfl) (fk (MI_s I) 47 rfl) (fn (MI_s I) 47 rfl) rfl (by omega) (by decide) (by decide) (by decide) (by decide) (fun g30 J31 K32 => ?_)
    have mk33 := KK_mk K32 hmk
    refine ex_aload_n ok_X12_toCopy (mi 35 rfl) rfl ?_
    refine ex_dup ok_X12_toCopy (mi 36 rfl) rfl ?_
    refine ex_getI ok_X12_toCopy (mi 37 rfl) rfl rfl (fk (MI_s J31) 0 rfl) ?_
    refine ex_gen (fun w34 => ?_)
    refine ex_aload_n ok_X12_toCopy (mi 38 rfl) rfl ?_
    refine ex_getRx ok_X12_toCopy (mi 39 rfl) rfl rfl (fk (MI_s J31) 0 rfl) (fr (MI_s J31) 46 rfl) (fk (MI_s J31) 47 rfl) (by decide) ?_
    refine ex_bipush ok_X12_toCopy (mi 40 rfl) ?_
    refine ex_iload_n ok_X12_toCopy (mi 41 rfl) rfl ?_
    refine ex_imul ok_X12_toCopy (mi 42 rfl) ?_
    refine ex_top (w := (nI (16 * a0))) (nI_mulc rfl) ?_
    refine ex_iload_n ok_X12_toCopy (mi 43 rfl) rfl ?_
    refine ex_iadd ok_X12_toCopy (mi 44 rfl) ?_
    refine ex_top (w := (nI (16 * a0 + v1))) (nI_add _ _) ?_
    refine sm_iald ok_X12_toCopy (mi 45 rfl) (fk (MI_s J31) 47 rfl) (fn (MI_s J31) 47 rfl) rfl (by omega) (by decide) ?_
    refine ex_gen (fun w35 => ?_)
    refine ex_iload ok_X12_toCopy (mi 46 rfl) rfl ?_
    refine ex_icmp_ne (tgt := 74) ok_X12_toCopy (mi 47 rfl) rfl (fun h67 => ?_) (fun h67 => ?_)
    · skip
      refine ex_iconst ok_X12_toCopy (mi 50 rfl) ?_
      refine ex_iadd ok_X12_toCopy (mi 51 rfl) ?_
      refine ex_gen (fun w36 => ?_)
      refine mf_putI J31 ok_X12_toCopy (mi 52 rfl) rfl rfl (fk (MI_s J31) 0 rfl) (by decide) (by decide) (fun g37 J38 K39 => ?_)
      have mk40 := KK_mk K39 mk33
      refine ex_aload_n ok_X12_toCopy (mi 53 rfl) rfl ?_
      refine ex_bipush ok_X12_toCopy (mi 54 rfl) ?_
      refine ex_iload_n ok_X12_toCopy (mi 55 rfl) rfl ?_
      refine ex_aload_n ok_X12_toCopy (mi 56 rfl) rfl ?_
      refine ex_getRx ok_X12_toCopy (mi 57 rfl) rfl rfl (fk (MI_s J38) 0 rfl) (fr (MI_s J38) 50 rfl) (fk (MI_s J38) 51 rfl) (by decide) ?_
      refine ex_iload_n ok_X12_toCopy (mi 58 rfl) rfl ?_
      refine sm_iald ok_X12_toCopy (mi 59 rfl) (fk (MI_s J38) 51 rfl) (fn (MI_s J38) 51 rfl) rfl (by omega) (by decide) ?_
      obtain ⟨v41, hv41, ev41⟩ := vp_in_of (n := 3) (vb_in mk40.2.2.1 (by decide)) (by decide)
      refine ex_top (w := nI v41) ev41 ?_
      refine ex_iload_n ok_X12_toCopy (mi 60 rfl) rfl ?_
      refine ex_aload_n ok_X12_toCopy (mi 61 rfl) rfl ?_
      refine ex_getRx ok_X12_toCopy (mi 62 rfl) rfl rfl (fk (MI_s J38) 0 rfl) (fr (MI_s J38) 46 rfl) (fk (MI_s J38) 47 rfl) (by decide) ?_
      refine ex_bipush ok_X12_toCopy (mi 63 rfl) ?_
      refine ex_iload_n ok_X12_toCopy (mi 64 rfl) rfl ?_
      refine ex_imul ok_X12_toCopy (mi 65 rfl) ?_
      refine ex_top (w := (nI (16 * a0))) (nI_mulc rfl) ?_
      refine ex_iload_n ok_X12_toCopy (mi 66 rfl) rfl ?_
      refine ex_iadd ok_X12_toCopy (mi 67 rfl) ?_
      refine ex_top (w := (nI (16 * a0 + v1))) (nI_add _ _) ?_
      refine sm_iald ok_X12_toCopy (mi 68 rfl) (fk (MI_s J38) 47 rfl) (fn (MI_s J38) 47 rfl) rfl (by omega) (by decide) ?_
      refine ex_gen (fun w42 => ?_)
      refine ex_iconst ok_X12_toCopy (mi 69 rfl) ?_
      refine sm_V (As := [_, _, _, _, _, _]) ok_X12_toCopy (mi 70 rfl) rfl (s_X12_lay hst J38 (κ := 8) (by decide) (Or.inl rfl) (Or.inr (vp_in_nI (N := 3) (by omega) (by decide))) (Or.inr (vp_in_nI (N := 16) (by omega) (by decide))) (Or.inl rfl) (Or.inl rfl)) rfl (fk (MI_s J38) 0 rfl) rfl rfl (by decide) (by decide) (Nat.le_of_ble_eq_true rfl) (by decide) LV_no (fun z43 g45 p44 => ?_)
      obtain ⟨b47, eb47, hb47, J46, lb47⟩ := p44
      cases eb47
      refine ex_istore ok_X12_toCopy (mi 71 rfl) ?_
      refine ex_vret ok_X12_toCopy (mi 72 rfl) rfl ?_
      exact ⟨_, rfl, rfl, J46⟩
    · skip
      refine ex_iconst ok_X12_toCopy (mi 48 rfl) ?_
      refine ex_goto (tgt := 75) ok_X12_toCopy (mi 49 rfl) rfl ?_
      refine ex_iadd ok_X12_toCopy (mi 51 rfl) ?_
      refine ex_gen (fun w48 => ?_)
      refine mf_putI J31 ok_X12_toCopy (mi 52 rfl) rfl rfl (fk (MI_s J31) 0 rfl) (by decide) (by decide) (fun g49 J50 K51 => ?_)
      have mk52 := KK_mk K51 mk33
      refine ex_aload_n ok_X12_toCopy (mi 53 rfl) rfl ?_
      refine ex_bipush ok_X12_toCopy (mi 54 rfl) ?_
      refine ex_iload_n ok_X12_toCopy (mi 55 rfl) rfl ?_
      refine ex_aload_n ok_X12_toCopy (mi 56 rfl) rfl ?_
      refine ex_getRx ok_X12_toCopy (mi 57 rfl) rfl rfl (fk (MI_s J50) 0 rfl) (fr (MI_s J50) 50 rfl) (fk (MI_s J50) 51 rfl) (by decide) ?_
      refine ex_iload_n ok_X12_toCopy (mi 58 rfl) rfl ?_
      refine sm_iald ok_X12_toCopy (mi 59 rfl) (fk (MI_s J50) 51 rfl) (fn (MI_s J50) 51 rfl) rfl (by omega) (by decide) ?_
      obtain ⟨v53, hv53, ev53⟩ := vp_in_of (n := 3) (vb_in mk52.2.2.1 (by decide)) (by decide)
      refine ex_top (w := nI v53) ev53 ?_
      refine ex_iload_n ok_X12_toCopy (mi 60 rfl) rfl ?_
      refine ex_aload_n ok_X12_toCopy (mi 61 rfl) rfl ?_
      refine ex_getRx ok_X12_toCopy (mi 62 rfl) rfl rfl (fk (MI_s J50) 0 rfl) (fr (MI_s J50) 46 rfl) (fk (MI_s J50) 47 rfl) (by decide) ?_
      refine ex_bipush ok_X12_toCopy (mi 63 rfl) ?_
      refine ex_iload_n ok_X12_toCopy (mi 64 rfl) rfl ?_
      refine ex_imul ok_X12_toCopy (mi 65 rfl) ?_
      refine ex_top (w := (nI (16 * a0))) (nI_mulc rfl) ?_
      refine ex_iload_n ok_X12_toCopy (mi 66 rfl) rfl ?_
      refine ex_iadd ok_X12_toCopy (mi 67 rfl) ?_
      refine ex_top (w := (nI (16 * a0 + v1))) (nI_add _ _) ?_
      refine sm_iald ok_X12_toCopy (mi 68 rfl) (fk (MI_s J50) 47 rfl) (fn (MI_s J50) 47 rfl) rfl (by omega) (by decide) ?_
      refine ex_gen (fun w54 => ?_)
      refine ex_iconst ok_X12_toCopy (mi 69 rfl) ?_
      refine sm_V (As := [_, _, _, _, _, _]) ok_X12_toCopy (mi 70 rfl) rfl (s_X12_lay hst J50 (κ := 8) (by decide) (Or.inl rfl) (Or.inr (vp_in_nI (N := 3) (by omega) (by decide))) (Or.inr (vp_in_nI (N := 16) (by omega) (by decide))) (Or.inl rfl) (Or.inl rfl)) rfl (fk (MI_s J50) 0 rfl) rfl rfl (by decide) (by decide) (Nat.le_of_ble_eq_true rfl) (by decide) LV_no (fun z55 g57 p56 => ?_)
      obtain ⟨b59, eb59, hb59, J58, lb59⟩ := p56
      cases eb59
      refine ex_istore ok_X12_toCopy (mi 71 rfl) ?_
      refine ex_vret ok_X12_toCopy (mi 72 rfl) rfl ?_
      exact ⟨_, rfl, rfl, J58⟩
