/-! ===== the model: what it forgets ===== -/
theorem s_X12_forgetMatching {G : GE} (hst : (ge_l G).stackTraces = false) {y c : Nat} {D : UT} {R : Nat → Prop} {g : GT} (I : MI y D c R g) {a0 : Nat} (ha0 : a0 < 3) : ex_M G 1 0 0 my_X12_forgetMatching [.ref y, .int (nI (a0))] g (SM y D c R pN) := by
  refine ex_M_of ok_X12_forgetMatching cw_X12_forgetMatching rfl hst (Nat.le_of_ble_eq_true rfl) ?_
  refine ex_aload_n ok_X12_forgetMatching (mi 0 rfl) rfl ?_
  refine ex_getRx ok_X12_forgetMatching (mi 1 rfl) rfl rfl (fk (MI_s I) 0 rfl) (fr (MI_s I) 6 rfl) (fk (MI_s I) 7 rfl) (by decide) ?_
  refine ex_iload_n ok_X12_forgetMatching (mi 2 rfl) rfl ?_
  refine ex_iconst ok_X12_forgetMatching (mi 3 rfl) ?_
  refine mf_A I ok_X12_forgetMatching (mi 4 rfl) (fk (MI_s I) 7 rfl) (fn (MI_s I) 7 rfl) rfl (by omega) (by decide) (by decide) (by decide) (by decide) (fun g1 J2 K3 => ?_)
  refine ex_aload_n ok_X12_forgetMatching (mi 5 rfl) rfl ?_
  refine ex_getRx ok_X12_forgetMatching (mi 6 rfl) rfl rfl (fk (MI_s J2) 0 rfl) (fr (MI_s J2) 7 rfl) (fk (MI_s J2) 8 rfl) (by decide) ?_
  refine ex_iload_n ok_X12_forgetMatching (mi 7 rfl) rfl ?_
  refine ex_iconst ok_X12_forgetMatching (mi 8 rfl) ?_
  refine mf_B J2 ok_X12_forgetMatching (mi 9 rfl) (fk (MI_s J2) 8 rfl) (fn (MI_s J2) 8 rfl) rfl (by omega) (by decide) (B := 300) (by decide) (by decide) (by decide) (pk_in 0 300 (by decide)) (fun g4 J5 K6 => ?_)
  refine ex_iconst ok_X12_forgetMatching (mi 10 rfl) ?_
  refine ex_istore_n ok_X12_forgetMatching (mi 11 rfl) ?_
  have lp16 : ∀ n16 k16 : Nat, k16 + n16 = 300 → ∀ (g7 : GT), MI y D c R g7 → ex_W G 1 0 0 M_X12_forgetMatching 16 [(0, .ref y), (1, .int (nI (a0))), (2, .int (nI (k16)))] [] g7 (SM y D c R pN) := by
    intro n16
    induction n16 with
    | zero =>
      intro k16 he16  g7 J8 
      obtain rfl : k16 = 300 := by omega
      refine ex_iload_n ok_X12_forgetMatching (mi 12 rfl) rfl ?_
      refine ex_sipush ok_X12_forgetMatching (mi 13 rfl) ?_
      refine ex_icmp_ge (tgt := 42) ok_X12_forgetMatching (mi 14 rfl) rfl (fun _ => ?_) (fun hn => absurd (by decide) hn)
      refine ex_vret ok_X12_forgetMatching (mi 26 rfl) rfl ?_
      exact ⟨_, rfl, rfl, J8⟩
    | succ n16 ih16 =>
      intro k16 he16  g7 J8 
      have hr16 : k16 < 300 := by omega
      refine ex_iload_n ok_X12_forgetMatching (mi 12 rfl) rfl ?_
      refine ex_sipush ok_X12_forgetMatching (mi 13 rfl) ?_
      refine ex_icmp_ge (tgt := 42) ok_X12_forgetMatching (mi 14 rfl) rfl (fun hn => absurd hn (nI_ge (b := 300) hr16 (by decide))) (fun _ => ?_)
      refine ex_aload_n ok_X12_forgetMatching (mi 15 rfl) rfl ?_
      refine ex_getRx ok_X12_forgetMatching (mi 16 rfl) rfl rfl (fk (MI_s J8) 0 rfl) (fr (MI_s J8) 8 rfl) (fk (MI_s J8) 9 rfl) (by decide) ?_
      refine ex_sipush ok_X12_forgetMatching (mi 17 rfl) ?_
      refine ex_iload_n ok_X12_forgetMatching (mi 18 rfl) rfl ?_
      refine ex_imul ok_X12_forgetMatching (mi 19 rfl) ?_
      refine ex_top (w := (nI (300 * a0))) (nI_mulc rfl) ?_
      refine ex_iload_n ok_X12_forgetMatching (mi 20 rfl) rfl ?_
      refine ex_iadd ok_X12_forgetMatching (mi 21 rfl) ?_
      refine ex_top (w := (nI (300 * a0 + k16))) (nI_add _ _) ?_
      refine ex_iconst ok_X12_forgetMatching (mi 22 rfl) ?_
      refine mf_A J8 ok_X12_forgetMatching (mi 23 rfl) (fk (MI_s J8) 9 rfl) (fn (MI_s J8) 9 rfl) rfl (by omega) (by decide) (by decide) (by decide) (by decide) (fun g9 J10 K11 => ?_)
      refine ex_iincx (w := (nI (k16 + 1))) ok_X12_forgetMatching (mi 24 rfl) rfl (nI_1 _) ?_
      refine ex_goto (tgt := 16) ok_X12_forgetMatching (mi 25 rfl) rfl ?_
      exact ex_ls (ls' := [(0, .ref y), (1, .int (nI (a0))), (2, .int (nI (k16 + 1)))]) ⟨rfl, rfl, rfl, trivial⟩ (ih16 (k16 + 1) (by omega) g9 J10 )
  exact ex_ls (ls' := [(0, .ref y), (1, .int (nI (a0))), (2, .int (nI 0))]) ⟨rfl, rfl, rfl, trivial⟩ (lp16 (300 - 0) (0) (by omega) g4 J5 )
theorem s_X12_forgetCollecting {G : GE} (hst : (ge_l G).stackTraces = false) {y c : Nat} {D : UT} {R : Nat → Prop} {g : GT} (I : MI y D c R g) {a0 : Nat} (ha0 : a0 < 3) : ex_M G 1 0 0 my_X12_forgetCollecting [.ref y, .int (nI (a0))] g (SM y D c R pN) := by
  refine ex_M_of ok_X12_forgetCollecting cw_X12_forgetCollecting rfl hst (Nat.le_of_ble_eq_true rfl) ?_
  refine ex_aload_n ok_X12_forgetCollecting (mi 0 rfl) rfl ?_
  refine ex_getRx ok_X12_forgetCollecting (mi 1 rfl) rfl rfl (fk (MI_s I) 0 rfl) (fr (MI_s I) 20 rfl) (fk (MI_s I) 21 rfl) (by decide) ?_
  refine ex_iload_n ok_X12_forgetCollecting (mi 2 rfl) rfl ?_
  refine ex_iconst ok_X12_forgetCollecting (mi 3 rfl) ?_
  refine mf_B I ok_X12_forgetCollecting (mi 4 rfl) (fk (MI_s I) 21 rfl) (fn (MI_s I) 21 rfl) rfl (by omega) (by decide) (B := 17) (by decide) (by decide) (by decide) (pk_in 0 17 (by decide)) (fun g1 J2 K3 => ?_)
  refine ex_aload_n ok_X12_forgetCollecting (mi 5 rfl) rfl ?_
  refine ex_getRx ok_X12_forgetCollecting (mi 6 rfl) rfl rfl (fk (MI_s J2) 0 rfl) (fr (MI_s J2) 21 rfl) (fk (MI_s J2) 22 rfl) (by decide) ?_
  refine ex_iload_n ok_X12_forgetCollecting (mi 7 rfl) rfl ?_
  refine ex_iconst ok_X12_forgetCollecting (mi 8 rfl) ?_
  refine mf_A J2 ok_X12_forgetCollecting (mi 9 rfl) (fk (MI_s J2) 22 rfl) (fn (MI_s J2) 22 rfl) rfl (by omega) (by decide) (by decide) (by decide) (by decide) (fun g4 J5 K6 => ?_)
  refine ex_aload_n ok_X12_forgetCollecting (mi 10 rfl) rfl ?_
  refine ex_getRx ok_X12_forgetCollecting (mi 11 rfl) rfl rfl (fk (MI_s J5) 0 rfl) (fr (MI_s J5) 22 rfl) (fk (MI_s J5) 23 rfl) (by decide) ?_
  refine ex_iload_n ok_X12_forgetCollecting (mi 12 rfl) rfl ?_
  refine ex_iconst ok_X12_forgetCollecting (mi 13 rfl) ?_
  refine mf_A J5 ok_X12_forgetCollecting (mi 14 rfl) (fk (MI_s J5) 23 rfl) (fn (MI_s J5) 23 rfl) rfl (by omega) (by decide) (by decide) (by decide) (by decide) (fun g7 J8 K9 => ?_)
  refine ex_aload_n ok_X12_forgetCollecting (mi 15 rfl) rfl ?_
  refine ex_getRx ok_X12_forgetCollecting (mi 16 rfl) rfl rfl (fk (MI_s J8) 0 rfl) (fr (MI_s J8) 23 rfl) (fk (MI_s J8) 24 rfl) (by decide) ?_
  refine ex_iload_n ok_X12_forgetCollecting (mi 17 rfl) rfl ?_
  refine ex_iconst ok_X12_forgetCollecting (mi 18 rfl) ?_
  refine mf_A J8 ok_X12_forgetCollecting (mi 19 rfl) (fk (MI_s J8) 24 rfl) (fn (MI_s J8) 24 rfl) rfl (by omega) (by decide) (by decide) (by decide) (by decide) (fun g10 J11 K12 => ?_)
  refine ex_aload_n ok_X12_forgetCollecting (mi 20 rfl) rfl ?_
  refine ex_getRx ok_X12_forgetCollecting (mi 21 rfl) rfl rfl (fk (MI_s J11) 0 rfl) (fr (MI_s J11) 24 rfl) (fk (MI_s J11) 25 rfl) (by decide) ?_
  refine ex_iload_n ok_X12_forgetCollecting (mi 22 rfl) rfl ?_
  refine ex_iconst ok_X12_forgetCollecting (mi 23 rfl) ?_
  refine mf_A J11 ok_X12_forgetCollecting (mi 24 rfl) (fk (MI_s J11) 25 rfl) (fn (MI_s J11) 25 rfl) rfl (by omega) (by decide) (by decide) (by decide) (by decide) (fun g13 J14 K15 => ?_)
  refine ex_vret ok_X12_forgetCollecting (mi 25 rfl) rfl ?_
  exact ⟨_, rfl, rfl, J14⟩
theorem s_X12_forgetRounds {G : GE} (hst : (ge_l G).stackTraces = false) {y c : Nat} {D : UT} {R : Nat → Prop} {g : GT} (I : MI y D c R g) {a0 : Nat} (ha0 : a0 < 3) : ex_M G 2 0 0 my_X12_forgetRounds [.ref y, .int (nI (a0))] g (SM y D c R pN) := by
  refine ex_M_of ok_X12_forgetRounds cw_X12_forgetRounds rfl hst (Nat.le_of_ble_eq_true rfl) ?_
  refine ex_aload_n ok_X12_forgetRounds (mi 0 rfl) rfl ?_
  refine ex_iload_n ok_X12_forgetRounds (mi 1 rfl) rfl ?_
  refine sm_V (As := [_]) ok_X12_forgetRounds (mi 2 rfl) rfl (s_X12_forgetMatching hst I (by omega)) rfl (fk (MI_s I) 0 rfl) rfl rfl (by decide) (by decide) (Nat.le_of_ble_eq_true rfl) (by decide) SM_no (fun z1 g3 p2 => ?_)
  obtain ⟨u5, eu5, u5p, J4⟩ := p2
  cases eu5
  obtain rfl : z1 = none := u5p
  refine ex_aload_n ok_X12_forgetRounds (mi 3 rfl) rfl ?_
  refine ex_getRx ok_X12_forgetRounds (mi 4 rfl) rfl rfl (fk (MI_s J4) 0 rfl) (fr (MI_s J4) 9 rfl) (fk (MI_s J4) 10 rfl) (by decide) ?_
  refine ex_iload_n ok_X12_forgetRounds (mi 5 rfl) rfl ?_
  refine ex_iconst ok_X12_forgetRounds (mi 6 rfl) ?_
  refine mf_A J4 ok_X12_forgetRounds (mi 7 rfl) (fk (MI_s J4) 10 rfl) (fn (MI_s J4) 10 rfl) rfl (by omega) (by decide) (by decide) (by decide) (by decide) (fun g6 J7 K8 => ?_)
  refine ex_aload_n ok_X12_forgetRounds (mi 8 rfl) rfl ?_
  refine ex_getRx ok_X12_forgetRounds (mi 9 rfl) rfl rfl (fk (MI_s J7) 0 rfl) (fr (MI_s J7) 10 rfl) (fk (MI_s J7) 11 rfl) (by decide) ?_
  refine ex_iload_n ok_X12_forgetRounds (mi 10 rfl) rfl ?_
  refine ex_iconst ok_X12_forgetRounds (mi 11 rfl) ?_
  refine mf_B J7 ok_X12_forgetRounds (mi 12 rfl) (fk (MI_s J7) 11 rfl) (fn (MI_s J7) 11 rfl) rfl (by omega) (by decide) (B := 17) (by decide) (by decide) (by decide) (pk_in 0 17 (by decide)) (fun g9 J10 K11 => ?_)
  refine ex_aload_n ok_X12_forgetRounds (mi 13 rfl) rfl ?_
  refine ex_getRx ok_X12_forgetRounds (mi 14 rfl) rfl rfl (fk (MI_s J10) 0 rfl) (fr (MI_s J10) 13 rfl) (fk (MI_s J10) 14 rfl) (by decide) ?_
  refine ex_iload_n ok_X12_forgetRounds (mi 15 rfl) rfl ?_
  refine ex_iconst ok_X12_forgetRounds (mi 16 rfl) ?_
  refine mf_B J10 ok_X12_forgetRounds (mi 17 rfl) (fk (MI_s J10) 14 rfl) (fn (MI_s J10) 14 rfl) rfl (by omega) (by decide) (B := 17) (by decide) (by decide) (by decide) (pk_in 0 17 (by decide)) (fun g12 J13 K14 => ?_)
  refine ex_aload_n ok_X12_forgetRounds (mi 18 rfl) rfl ?_
  refine ex_getRx ok_X12_forgetRounds (mi 19 rfl) rfl rfl (fk (MI_s J13) 0 rfl) (fr (MI_s J13) 14 rfl) (fk (MI_s J13) 15 rfl) (by decide) ?_
  refine ex_iload_n ok_X12_forgetRounds (mi 20 rfl) rfl ?_
  refine ex_iconst ok_X12_forgetRounds (mi 21 rfl) ?_
  refine mf_B J13 ok_X12_forgetRounds (mi 22 rfl) (fk (MI_s J13) 15 rfl) (fn (MI_s J13) 15 rfl) rfl (by omega) (by decide) (B := 17) (by decide) (by decide) (by decide) (pk_in 0 17 (by decide)) (fun g15 J16 K17 => ?_)
  refine ex_iconst ok_X12_forgetRounds (mi 23 rfl) ?_
  refine ex_istore_n ok_X12_forgetRounds (mi 24 rfl) ?_
  have lp35 : ∀ n35 k35 : Nat, k35 + n35 = 16 → ∀ (g18 : GT), MI y D c R g18 → ex_W G 2 0 0 M_X12_forgetRounds 35 [(0, .ref y), (1, .int (nI (a0))), (2, .int (nI (k35)))] [] g18 (SM y D c R pN) := by
    intro n35
    induction n35 with
    | zero =>
      intro k35 he35  g18 J19 
      obtain rfl : k35 = 16 := by omega
      refine ex_iload_n ok_X12_forgetRounds (mi 25 rfl) rfl ?_
      refine ex_bipush ok_X12_forgetRounds (mi 26 rfl) ?_
      refine ex_icmp_ge (tgt := 107) ok_X12_forgetRounds (mi 27 rfl) rfl (fun _ => ?_) (fun hn => absurd (by decide) hn)
      refine ex_aload_n ok_X12_forgetRounds (mi 75 rfl) rfl ?_
      refine ex_getRx ok_X12_forgetRounds (mi 76 rfl) rfl rfl (fk (MI_s J19) 0 rfl) (fr (MI_s J19) 19 rfl) (fk (MI_s J19) 20 rfl) (by decide) ?_
      refine ex_iload_n ok_X12_forgetRounds (mi 77 rfl) rfl ?_
      refine ex_iconst ok_X12_forgetRounds (mi 78 rfl) ?_
      refine mf_A J19 ok_X12_forgetRounds (mi 79 rfl) (fk (MI_s J19) 20 rfl) (fn (MI_s J19) 20 rfl) rfl (by omega) (by decide) (by decide) (by decide) (by decide) (fun g20 J21 K22 => ?_)
      refine ex_aload_n ok_X12_forgetRounds (mi 80 rfl) rfl ?_
      refine ex_iload_n ok_X12_forgetRounds (mi 81 rfl) rfl ?_
      refine sm_V (As := [_]) ok_X12_forgetRounds (mi 82 rfl) rfl (s_X12_forgetCollecting hst J21 (by omega)) rfl (fk (MI_s J21) 0 rfl) rfl rfl (by decide) (by decide) (Nat.le_of_ble_eq_true rfl) (by decide) SM_no (fun z23 g25 p24 => ?_)
      obtain ⟨u27, eu27, u27p, J26⟩ := p24
      cases eu27
      obtain rfl : z23 = none := u27p
      refine ex_vret ok_X12_forgetRounds (mi 83 rfl) rfl ?_
      exact ⟨_, rfl, rfl, J26⟩
    | succ n35 ih35 =>
      intro k35 he35  g18 J19 
      have hr35 : k35 < 16 := by omega
      refine ex_iload_n ok_X12_forgetRounds (mi 25 rfl) rfl ?_
      refine ex_bipush ok_X12_forgetRounds (mi 26 rfl) ?_
      refine ex_icmp_ge (tgt := 107) ok_X12_forgetRounds (mi 27 rfl) rfl (fun hn => absurd hn (nI_ge (b := 16) hr35 (by decide))) (fun _ => ?_)
      refine ex_aload_n ok_X12_forgetRounds (mi 28 rfl) rfl ?_
      refine ex_getRx ok_X12_forgetRounds (mi 29 rfl) rfl rfl (fk (MI_s J19) 0 rfl) (fr (MI_s J19) 11 rfl) (fk (MI_s J19) 12 rfl) (by decide) ?_
      refine ex_bipush ok_X12_forgetRounds (mi 30 rfl) ?_
      refine ex_iload_n ok_X12_forgetRounds (mi 31 rfl) rfl ?_
      refine ex_imul ok_X12_forgetRounds (mi 32 rfl) ?_
      refine ex_top (w := (nI (16 * a0))) (nI_mulc rfl) ?_
      refine ex_iload_n ok_X12_forgetRounds (mi 33 rfl) rfl ?_
      refine ex_iadd ok_X12_forgetRounds (mi 34 rfl) ?_
      refine ex_top (w := (nI (16 * a0 + k35))) (nI_add _ _) ?_
      refine ex_iconst ok_X12_forgetRounds (mi 35 rfl) ?_
      refine mf_A J19 ok_X12_forgetRounds (mi 36 rfl) (fk (MI_s J19) 12 rfl) (fn (MI_s J19) 12 rfl) rfl (by omega) (by decide) (by decide) (by decide) (by decide) (fun g28 J29 K30 => ?_)
      refine ex_aload_n ok_X12_forgetRounds (mi 37 rfl) rfl ?_
      refine ex_getRx ok_X12_forgetRounds (mi 38 rfl) rfl rfl (fk (MI_s J29) 0 rfl) (fr (MI_s J29) 15 rfl) (fk (MI_s J29) 16 rfl) (by decide) ?_
      refine ex_bipush ok_X12_forgetRounds (mi 39 rfl) ?_
      refine ex_iload_n ok_X12_forgetRounds (mi 40 rfl) rfl ?_
      refine ex_imul ok_X12_forgetRounds (mi 41 rfl) ?_
      refine ex_top (w := (nI (16 * a0))) (nI_mulc rfl) ?_
      refine ex_iload_n ok_X12_forgetRounds (mi 42 rfl) rfl ?_
      refine ex_iadd ok_X12_forgetRounds (mi 43 rfl) ?_
      refine ex_top (w := (nI (16 * a0 + k35))) (nI_add _ _) ?_
      refine ex_iconst ok_X12_forgetRounds (mi 44 rfl) ?_
      refine mf_A J29 ok_X12_forgetRounds (mi 45 rfl) (fk (MI_s J29) 16 rfl) (fn (MI_s J29) 16 rfl) rfl (by omega) (by decide) (by decide) (by decide) (by decide) (fun g31 J32 K33 => ?_)
      refine ex_aload_n ok_X12_forgetRounds (mi 46 rfl) rfl ?_
      refine ex_getRx ok_X12_forgetRounds (mi 47 rfl) rfl rfl (fk (MI_s J32) 0 rfl) (fr (MI_s J32) 16 rfl) (fk (MI_s J32) 17 rfl) (by decide) ?_
      refine ex_bipush ok_X12_forgetRounds (mi 48 rfl) ?_
      refine ex_iload_n ok_X12_forgetRounds (mi 49 rfl) rfl ?_
      refine ex_imul ok_X12_forgetRounds (mi 50 rfl) ?_
      refine ex_top (w := (nI (16 * a0))) (nI_mulc rfl) ?_
      refine ex_iload_n ok_X12_forgetRounds (mi 51 rfl) rfl ?_
      refine ex_iadd ok_X12_forgetRounds (mi 52 rfl) ?_
      refine ex_top (w := (nI (16 * a0 + k35))) (nI_add _ _) ?_
      refine ex_iconst ok_X12_forgetRounds (mi 53 rfl) ?_
      refine mf_A J32 ok_X12_forgetRounds (mi 54 rfl) (fk (MI_s J32) 17 rfl) (fn (MI_s J32) 17 rfl) rfl (by omega) (by decide) (by decide) (by decide) (by decide) (fun g34 J35 K36 => ?_)
      refine ex_aload_n ok_X12_forgetRounds (mi 55 rfl) rfl ?_
      refine ex_getRx ok_X12_forgetRounds (mi 56 rfl) rfl rfl (fk (MI_s J35) 0 rfl) (fr (MI_s J35) 17 rfl) (fk (MI_s J35) 18 rfl) (by decide) ?_
      refine ex_bipush ok_X12_forgetRounds (mi 57 rfl) ?_
      refine ex_iload_n ok_X12_forgetRounds (mi 58 rfl) rfl ?_
      refine ex_imul ok_X12_forgetRounds (mi 59 rfl) ?_
      refine ex_top (w := (nI (16 * a0))) (nI_mulc rfl) ?_
      refine ex_iload_n ok_X12_forgetRounds (mi 60 rfl) rfl ?_
      refine ex_iadd ok_X12_forgetRounds (mi 61 rfl) ?_
      refine ex_top (w := (nI (16 * a0 + k35))) (nI_add _ _) ?_
      refine ex_iconst ok_X12_forgetRounds (mi 62 rfl) ?_
      refine mf_A J35 ok_X12_forgetRounds (mi 63 rfl) (fk (MI_s J35) 18 rfl) (fn (MI_s J35) 18 rfl) rfl (by omega) (by decide) (by decide) (by decide) (by decide) (fun g37 J38 K39 => ?_)
      refine ex_aload_n ok_X12_forgetRounds (mi 64 rfl) rfl ?_
      refine ex_getRx ok_X12_forgetRounds (mi 65 rfl) rfl rfl (fk (MI_s J38) 0 rfl) (fr (MI_s J38) 18 rfl) (fk (MI_s J38) 19 rfl) (by decide) ?_
      refine ex_bipush ok_X12_forgetRounds (mi 66 rfl) ?_
      refine ex_iload_n ok_X12_forgetRounds (mi 67 rfl) rfl ?_
      refine ex_imul ok_X12_forgetRounds (mi 68 rfl) ?_
      refine ex_top (w := (nI (16 * a0))) (nI_mulc rfl) ?_
      refine ex_iload_n ok_X12_forgetRounds (mi 69 rfl) rfl ?_
      refine ex_iadd ok_X12_forgetRounds (mi 70 rfl) ?_
      refine ex_top (w := (nI (16 * a0 + k35))) (nI_add _ _) ?_
      refine ex_iconst ok_X12_forgetRounds (mi 71 rfl) ?_
      refine mf_A J38 ok_X12_forgetRounds (mi 72 rfl) (fk (MI_s J38) 19 rfl) (fn (MI_s J38) 19 rfl) rfl (by omega) (by decide) (by decide) (by decide) (by decide) (fun g40 J41 K42 => ?_)
      refine ex_iincx (w := (nI (k35 + 1))) ok_X12_forgetRounds (mi 73 rfl) rfl (nI_1 _) ?_
      refine ex_goto (tgt := 35) ok_X12_forgetRounds (mi 74 rfl) rfl ?_
      exact ex_ls (ls' := [(0, .ref y), (1, .int (nI (a0))), (2, .int (nI (k35 + 1)))]) ⟨rfl, rfl, rfl, trivial⟩ (ih35 (k35 + 1) (by omega) g40 J41 )
  exact ex_ls (ls' := [(0, .ref y), (1, .int (nI (a0))), (2, .int (nI 0))]) ⟨rfl, rfl, rfl, trivial⟩ (lp35 (16 - 0) (0) (by omega) g15 J16 )
theorem s_X12_forgetReform {G : GE} (hst : (ge_l G).stackTraces = false) {y c : Nat} {D : UT} {R : Nat → Prop} {g : GT} (I : MI y D c R g) {a0 : Nat} (ha0 : a0 < 3) : ex_M G 1 0 0 my_X12_forgetReform [.ref y, .int (nI (a0))] g (SM y D c R pN) := by
  refine ex_M_of ok_X12_forgetReform cw_X12_forgetReform rfl hst (Nat.le_of_ble_eq_true rfl) ?_
  refine ex_aload_n ok_X12_forgetReform (mi 0 rfl) rfl ?_
  refine ex_getRx ok_X12_forgetReform (mi 1 rfl) rfl rfl (fk (MI_s I) 0 rfl) (fr (MI_s I) 28 rfl) (fk (MI_s I) 29 rfl) (by decide) ?_
  refine ex_iload_n ok_X12_forgetReform (mi 2 rfl) rfl ?_
  refine ex_iconst ok_X12_forgetReform (mi 3 rfl) ?_
  refine mf_A I ok_X12_forgetReform (mi 4 rfl) (fk (MI_s I) 29 rfl) (fn (MI_s I) 29 rfl) rfl (by omega) (by decide) (by decide) (by decide) (by decide) (fun g1 J2 K3 => ?_)
  refine ex_aload_n ok_X12_forgetReform (mi 5 rfl) rfl ?_
  refine ex_getRx ok_X12_forgetReform (mi 6 rfl) rfl rfl (fk (MI_s J2) 0 rfl) (fr (MI_s J2) 29 rfl) (fk (MI_s J2) 30 rfl) (by decide) ?_
  refine ex_iload_n ok_X12_forgetReform (mi 7 rfl) rfl ?_
  refine ex_iconst ok_X12_forgetReform (mi 8 rfl) ?_
  refine mf_B J2 ok_X12_forgetReform (mi 9 rfl) (fk (MI_s J2) 30 rfl) (fn (MI_s J2) 30 rfl) rfl (by omega) (by decide) (B := 300) (by decide) (by decide) (by decide) (pk_in 0 300 (by decide)) (fun g4 J5 K6 => ?_)
  refine ex_aload_n ok_X12_forgetReform (mi 10 rfl) rfl ?_
  refine ex_getRx ok_X12_forgetReform (mi 11 rfl) rfl rfl (fk (MI_s J5) 0 rfl) (fr (MI_s J5) 31 rfl) (fk (MI_s J5) 32 rfl) (by decide) ?_
  refine ex_iload_n ok_X12_forgetReform (mi 12 rfl) rfl ?_
  refine ex_iconst ok_X12_forgetReform (mi 13 rfl) ?_
  refine mf_A J5 ok_X12_forgetReform (mi 14 rfl) (fk (MI_s J5) 32 rfl) (fn (MI_s J5) 32 rfl) rfl (by omega) (by decide) (by decide) (by decide) (by decide) (fun g7 J8 K9 => ?_)
  refine ex_aload_n ok_X12_forgetReform (mi 15 rfl) rfl ?_
  refine ex_getRx ok_X12_forgetReform (mi 16 rfl) rfl rfl (fk (MI_s J8) 0 rfl) (fr (MI_s J8) 32 rfl) (fk (MI_s J8) 33 rfl) (by decide) ?_
  refine ex_iload_n ok_X12_forgetReform (mi 17 rfl) rfl ?_
  refine ex_iconst ok_X12_forgetReform (mi 18 rfl) ?_
  refine mf_B J8 ok_X12_forgetReform (mi 19 rfl) (fk (MI_s J8) 33 rfl) (fn (MI_s J8) 33 rfl) rfl (by omega) (by decide) (B := 512) (by decide) (by decide) (by decide) (pk_in 0 512 (by decide)) (fun g10 J11 K12 => ?_)
  refine ex_iconst ok_X12_forgetReform (mi 20 rfl) ?_
  refine ex_istore_n ok_X12_forgetReform (mi 21 rfl) ?_
  have lp30 : ∀ n30 k30 : Nat, k30 + n30 = 300 → ∀ (g13 : GT), MI y D c R g13 → ex_W G 1 0 0 M_X12_forgetReform 30 [(0, .ref y), (1, .int (nI (a0))), (2, .int (nI (k30)))] [] g13 (SM y D c R pN) := by
    intro n30
    induction n30 with
    | zero =>
      intro k30 he30  g13 J14 
      obtain rfl : k30 = 300 := by omega
      refine ex_iload_n ok_X12_forgetReform (mi 22 rfl) rfl ?_
      refine ex_sipush ok_X12_forgetReform (mi 23 rfl) ?_
      refine ex_icmp_ge (tgt := 56) ok_X12_forgetReform (mi 24 rfl) rfl (fun _ => ?_) (fun hn => absurd (by decide) hn)
      refine ex_vret ok_X12_forgetReform (mi 36 rfl) rfl ?_
      exact ⟨_, rfl, rfl, J14⟩
    | succ n30 ih30 =>
      intro k30 he30  g13 J14 
      have hr30 : k30 < 300 := by omega
      refine ex_iload_n ok_X12_forgetReform (mi 22 rfl) rfl ?_
      refine ex_sipush ok_X12_forgetReform (mi 23 rfl) ?_
      refine ex_icmp_ge (tgt := 56) ok_X12_forgetReform (mi 24 rfl) rfl (fun hn => absurd hn (nI_ge (b := 300) hr30 (by decide))) (fun _ => ?_)
      refine ex_aload_n ok_X12_forgetReform (mi 25 rfl) rfl ?_
      refine ex_getRx ok_X12_forgetReform (mi 26 rfl) rfl rfl (fk (MI_s J14) 0 rfl) (fr (MI_s J14) 30 rfl) (fk (MI_s J14) 31 rfl) (by decide) ?_
      refine ex_sipush ok_X12_forgetReform (mi 27 rfl) ?_
      refine ex_iload_n ok_X12_forgetReform (mi 28 rfl) rfl ?_
      refine ex_imul ok_X12_forgetReform (mi 29 rfl) ?_
      refine ex_top (w := (nI (300 * a0))) (nI_mulc rfl) ?_
      refine ex_iload_n ok_X12_forgetReform (mi 30 rfl) rfl ?_
      refine ex_iadd ok_X12_forgetReform (mi 31 rfl) ?_
      refine ex_top (w := (nI (300 * a0 + k30))) (nI_add _ _) ?_
      refine ex_iconst ok_X12_forgetReform (mi 32 rfl) ?_
      refine mf_A J14 ok_X12_forgetReform (mi 33 rfl) (fk (MI_s J14) 31 rfl) (fn (MI_s J14) 31 rfl) rfl (by omega) (by decide) (by decide) (by decide) (by decide) (fun g15 J16 K17 => ?_)
      refine ex_iincx (w := (nI (k30 + 1))) ok_X12_forgetReform (mi 34 rfl) rfl (nI_1 _) ?_
      refine ex_goto (tgt := 30) ok_X12_forgetReform (mi 35 rfl) rfl ?_
      exact ex_ls (ls' := [(0, .ref y), (1, .int (nI (a0))), (2, .int (nI (k30 + 1)))]) ⟨rfl, rfl, rfl, trivial⟩ (ih30 (k30 + 1) (by omega) g15 J16 )
  exact ex_ls (ls' := [(0, .ref y), (1, .int (nI (a0))), (2, .int (nI 0))]) ⟨rfl, rfl, rfl, trivial⟩ (lp30 (300 - 0) (0) (by omega) g10 J11 )
theorem s_X12_refuses {G : GE} (hst : (ge_l G).stackTraces = false) {y c : Nat} {D : UT} {R : Nat → Prop} {g : GT} (I : MI y D c R g) {p0 : Int32} {p1 : Int32} {p2 : Int32} : ex_M G 1 0 0 my_X12_refuses [.ref y, .int p0, .int p1, .int p2] g (SM y D c R pZ) := by
  refine ex_M_of ok_X12_refuses cw_X12_refuses rfl hst (Nat.le_of_ble_eq_true rfl) ?_
  refine ex_aload_n ok_X12_refuses (mi 0 rfl) rfl ?_
  refine ex_iload_n ok_X12_refuses (mi 1 rfl) rfl ?_
  refine ex_if_ne (tgt := 9) ok_X12_refuses (mi 2 rfl) rfl (fun h2 => ?_) (fun h2 => ?_)
  · skip
    refine ex_iload_n ok_X12_refuses (mi 5 rfl) rfl ?_
    refine ex_if_ne (tgt := 17) ok_X12_refuses (mi 6 rfl) rfl (fun h10 => ?_) (fun h10 => ?_)
    · skip
      refine ex_iload_n ok_X12_refuses (mi 9 rfl) rfl ?_
      refine ex_if_ne (tgt := 25) ok_X12_refuses (mi 10 rfl) rfl (fun h18 => ?_) (fun h18 => ?_)
      · skip
        refine ex_iconst ok_X12_refuses (mi 13 rfl) ?_
        refine mf_putI I ok_X12_refuses (mi 14 rfl) rfl rfl (fk (MI_s I) 0 rfl) (by decide) (by decide) (fun g1 J2 K3 => ?_)
        refine ex_aload_n ok_X12_refuses (mi 15 rfl) rfl ?_
        refine ex_getI ok_X12_refuses (mi 16 rfl) rfl rfl (fk (MI_s J2) 0 rfl) ?_
        refine ex_gen (fun w4 => ?_)
        refine ex_if_le (tgt := 40) ok_X12_refuses (mi 17 rfl) rfl (fun h33 => ?_) (fun h33 => ?_)
        · skip
          refine ex_iconst ok_X12_refuses (mi 20 rfl) ?_
          refine ex_zret ok_X12_refuses (mi 21 rfl) rfl (by decide) ?_
          exact ⟨_, rfl, ⟨_, rfl, (by decide)⟩, J2⟩
        · skip
          refine ex_iconst ok_X12_refuses (mi 18 rfl) ?_
          refine ex_goto (tgt := 41) ok_X12_refuses (mi 19 rfl) rfl ?_
          refine ex_zret ok_X12_refuses (mi 21 rfl) rfl (by decide) ?_
          exact ⟨_, rfl, ⟨_, rfl, (by decide)⟩, J2⟩
      · skip
        refine ex_iconst ok_X12_refuses (mi 11 rfl) ?_
        refine ex_goto (tgt := 26) ok_X12_refuses (mi 12 rfl) rfl ?_
        refine mf_putI I ok_X12_refuses (mi 14 rfl) rfl rfl (fk (MI_s I) 0 rfl) (by decide) (by decide) (fun g5 J6 K7 => ?_)
        refine ex_aload_n ok_X12_refuses (mi 15 rfl) rfl ?_
        refine ex_getI ok_X12_refuses (mi 16 rfl) rfl rfl (fk (MI_s J6) 0 rfl) ?_
        refine ex_gen (fun w8 => ?_)
        refine ex_if_le (tgt := 40) ok_X12_refuses (mi 17 rfl) rfl (fun h33 => ?_) (fun h33 => ?_)
        · skip
          refine ex_iconst ok_X12_refuses (mi 20 rfl) ?_
          refine ex_zret ok_X12_refuses (mi 21 rfl) rfl (by decide) ?_
          exact ⟨_, rfl, ⟨_, rfl, (by decide)⟩, J6⟩
        · skip
          refine ex_iconst ok_X12_refuses (mi 18 rfl) ?_
          refine ex_goto (tgt := 41) ok_X12_refuses (mi 19 rfl) rfl ?_
          refine ex_zret ok_X12_refuses (mi 21 rfl) rfl (by decide) ?_
          exact ⟨_, rfl, ⟨_, rfl, (by decide)⟩, J6⟩
    · skip
      refine ex_iconst ok_X12_refuses (mi 7 rfl) ?_
      refine ex_goto (tgt := 26) ok_X12_refuses (mi 8 rfl) rfl ?_
      refine mf_putI I ok_X12_refuses (mi 14 rfl) rfl rfl (fk (MI_s I) 0 rfl) (by decide) (by decide) (fun g9 J10 K11 => ?_)
      refine ex_aload_n ok_X12_refuses (mi 15 rfl) rfl ?_
      refine ex_getI ok_X12_refuses (mi 16 rfl) rfl rfl (fk (MI_s J10) 0 rfl) ?_
      refine ex_gen (fun w12 => ?_)
      refine ex_if_le (tgt := 40) ok_X12_refuses (mi 17 rfl) rfl (fun h33 => ?_) (fun h33 => ?_)
      · skip
        refine ex_iconst ok_X12_refuses (mi 20 rfl) ?_
        refine ex_zret ok_X12_refuses (mi 21 rfl) rfl (by decide) ?_
        exact ⟨_, rfl, ⟨_, rfl, (by decide)⟩, J10⟩
      · skip
        refine ex_iconst ok_X12_refuses (mi 18 rfl) ?_
        refine ex_goto (tgt := 41) ok_X12_refuses (mi 19 rfl) rfl ?_
        refine ex_zret ok_X12_refuses (mi 21 rfl) rfl (by decide) ?_
        exact ⟨_, rfl, ⟨_, rfl, (by decide)⟩, J10⟩
  · skip
    refine ex_iconst ok_X12_refuses (mi 3 rfl) ?_
    refine ex_goto (tgt := 26) ok_X12_refuses (mi 4 rfl) rfl ?_
    refine mf_putI I ok_X12_refuses (mi 14 rfl) rfl rfl (fk (MI_s I) 0 rfl) (by decide) (by decide) (fun g13 J14 K15 => ?_)
    refine ex_aload_n ok_X12_refuses (mi 15 rfl) rfl ?_
    refine ex_getI ok_X12_refuses (mi 16 rfl) rfl rfl (fk (MI_s J14) 0 rfl) ?_
    refine ex_gen (fun w16 => ?_)
    refine ex_if_le (tgt := 40) ok_X12_refuses (mi 17 rfl) rfl (fun h33 => ?_) (fun h33 => ?_)
    · skip
      refine ex_iconst ok_X12_refuses (mi 20 rfl) ?_
      refine ex_zret ok_X12_refuses (mi 21 rfl) rfl (by decide) ?_
      exact ⟨_, rfl, ⟨_, rfl, (by decide)⟩, J14⟩
    · skip
      refine ex_iconst ok_X12_refuses (mi 18 rfl) ?_
      refine ex_goto (tgt := 41) ok_X12_refuses (mi 19 rfl) rfl ?_
      refine ex_zret ok_X12_refuses (mi 21 rfl) rfl (by decide) ?_
      exact ⟨_, rfl, ⟨_, rfl, (by decide)⟩, J14⟩
