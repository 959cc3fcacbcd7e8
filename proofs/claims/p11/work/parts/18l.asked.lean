theorem s_X12_asked {G : GE} (hst : (ge_l G).stackTraces = false) {y c : Nat} {D : UT} {R : Nat → Prop} {g : GT} (I : MI y D c R g) {a0 : Nat} (ha0 : a0 < 3) {a1 : Nat} (ha1 : a1 < 402) {m : Nat} (hmk : MK y g a1 4 m) : ex_M G 5 0 0 my_X12_asked [.ref y, .int (nI (a0)), .int (nI (a1))] g (SM y D c R pN) := by
  refine ex_M_of ok_X12_asked cw_X12_asked rfl hst (Nat.le_of_ble_eq_true rfl) ?_
  have hm3 : m < 17 := hmk.2.2.2.2.2.2.2.1
  refine ex_aload_n ok_X12_asked (mi 0 rfl) rfl ?_
  refine ex_getRx ok_X12_asked (mi 1 rfl) rfl rfl (fk (MI_s I) 0 rfl) (fr (MI_s I) 1 rfl) (fk (MI_s I) 2 rfl) (by decide) ?_
  refine ex_iload_n ok_X12_asked (mi 2 rfl) rfl ?_
  refine sm_iald ok_X12_asked (mi 3 rfl) (fk (MI_s I) 2 rfl) (fn (MI_s I) 2 rfl) rfl (by omega) (by decide) ?_
  refine ex_iconst ok_X12_asked (mi 4 rfl) ?_
  refine ex_icmp_ne (tgt := 27) ok_X12_asked (mi 5 rfl) rfl (fun h7 => ?_) (fun h7 => ?_)
  · skip
    refine ex_vret ok_X12_asked (mi 17 rfl) rfl ?_
    exact ⟨_, rfl, rfl, I⟩
  · skip
    have J1 := MI_Ra (l := a0) I (by rw [h7]; decide)
    refine ex_aload_n ok_X12_asked (mi 6 rfl) rfl ?_
    refine ex_getRx ok_X12_asked (mi 7 rfl) rfl rfl (fk (MI_s J1) 0 rfl) (fr (MI_s J1) 52 rfl) (fk (MI_s J1) 53 rfl) (by decide) ?_
    refine ex_iconst ok_X12_asked (mi 8 rfl) ?_
    refine ex_iload_n ok_X12_asked (mi 9 rfl) rfl ?_
    refine ex_imul ok_X12_asked (mi 10 rfl) ?_
    refine ex_top (w := (nI (3 * a1))) (nI_mulc rfl) ?_
    refine sm_iald ok_X12_asked (mi 11 rfl) (fk (MI_s J1) 53 rfl) (fn (MI_s J1) 53 rfl) rfl (by omega) (by decide) ?_
    refine ex_gen (fun w2 => ?_)
    refine ex_aload_n ok_X12_asked (mi 12 rfl) rfl ?_
    refine ex_getRx ok_X12_asked (mi 13 rfl) rfl rfl (fk (MI_s J1) 0 rfl) (fr (MI_s J1) 2 rfl) (fk (MI_s J1) 3 rfl) (by decide) ?_
    refine ex_iload_n ok_X12_asked (mi 14 rfl) rfl ?_
    refine sm_iald ok_X12_asked (mi 15 rfl) (fk (MI_s J1) 3 rfl) (fn (MI_s J1) 3 rfl) rfl (by omega) (by decide) ?_
    obtain ⟨v3, hv3, ev3⟩ := vp_in_of (n := 300) (MI_rd J1 (i := a0) (by omega) (Or.inr rfl)) (by decide)
    refine ex_top (w := nI v3) ev3 ?_
    refine ex_icmp_eq (tgt := 28) ok_X12_asked (mi 16 rfl) rfl (fun h24 => ?_) (fun h24 => ?_)
    · skip
      refine ex_aload_n ok_X12_asked (mi 18 rfl) rfl ?_
      refine ex_getRx ok_X12_asked (mi 19 rfl) rfl rfl (fk (MI_s J1) 0 rfl) (fr (MI_s J1) 9 rfl) (fk (MI_s J1) 10 rfl) (by decide) ?_
      refine ex_iload_n ok_X12_asked (mi 20 rfl) rfl ?_
      refine ex_dup2 ok_X12_asked (mi 21 rfl) rfl rfl ?_
      refine sm_iald ok_X12_asked (mi 22 rfl) (fk (MI_s J1) 10 rfl) (fn (MI_s J1) 10 rfl) rfl (by omega) (by decide) ?_
      refine ex_gen (fun w4 => ?_)
      refine ex_iconst ok_X12_asked (mi 23 rfl) ?_
      refine ex_aload_n ok_X12_asked (mi 24 rfl) rfl ?_
      refine ex_getRx ok_X12_asked (mi 25 rfl) rfl rfl (fk (MI_s J1) 0 rfl) (fr (MI_s J1) 50 rfl) (fk (MI_s J1) 51 rfl) (by decide) ?_
      refine ex_iload_n ok_X12_asked (mi 26 rfl) rfl ?_
      refine sm_iald ok_X12_asked (mi 27 rfl) (fk (MI_s J1) 51 rfl) (fn (MI_s J1) 51 rfl) rfl (by omega) (by decide) ?_
      refine ex_gen (fun w5 => ?_)
      refine ex_ishl ok_X12_asked (mi 28 rfl) ?_
      refine ex_gen (fun w6 => ?_)
      refine ex_ior ok_X12_asked (mi 29 rfl) ?_
      refine ex_gen (fun w7 => ?_)
      refine mf_A J1 ok_X12_asked (mi 30 rfl) (fk (MI_s J1) 10 rfl) (fn (MI_s J1) 10 rfl) rfl (by omega) (by decide) (by decide) (by decide) (by decide) (fun g8 J9 K10 => ?_)
      have mk11 := KK_mk K10 hmk
      refine ex_aload_n ok_X12_asked (mi 31 rfl) rfl ?_
      refine ex_getRx ok_X12_asked (mi 32 rfl) rfl rfl (fk (MI_s J9) 0 rfl) (fr (MI_s J9) 10 rfl) (fk (MI_s J9) 11 rfl) (by decide) ?_
      refine ex_iload_n ok_X12_asked (mi 33 rfl) rfl ?_
      refine ex_aload_n ok_X12_asked (mi 34 rfl) rfl ?_
      refine ex_getRx ok_X12_asked (mi 35 rfl) rfl rfl (fk (MI_s J9) 0 rfl) (fr (MI_s J9) 52 rfl) (fk (MI_s J9) 53 rfl) (by decide) ?_
      refine ex_iconst ok_X12_asked (mi 36 rfl) ?_
      refine ex_iload_n ok_X12_asked (mi 37 rfl) rfl ?_
      refine ex_imul ok_X12_asked (mi 38 rfl) ?_
      refine ex_top (w := (nI (3 * a1))) (nI_mulc rfl) ?_
      refine ex_iconst ok_X12_asked (mi 39 rfl) ?_
      refine ex_iadd ok_X12_asked (mi 40 rfl) ?_
      refine ex_top (w := (nI (3 * a1 + 1))) (nI_add _ 1) ?_
      refine sm_iald ok_X12_asked (mi 41 rfl) (fk (MI_s J9) 53 rfl) (fn (MI_s J9) 53 rfl) rfl (by omega) (by decide) ?_
      obtain ⟨v12, hv12, ev12⟩ := vp_in_of (n := 17) (vb_in mk11.2.2.2.2.1 (by decide)) (by decide)
      refine ex_top (w := nI v12) ev12 ?_
      refine ex_aload_n ok_X12_asked (mi 42 rfl) rfl ?_
      refine ex_getRx ok_X12_asked (mi 43 rfl) rfl rfl (fk (MI_s J9) 0 rfl) (fr (MI_s J9) 10 rfl) (fk (MI_s J9) 11 rfl) (by decide) ?_
      refine ex_iload_n ok_X12_asked (mi 44 rfl) rfl ?_
      refine sm_iald ok_X12_asked (mi 45 rfl) (fk (MI_s J9) 11 rfl) (fn (MI_s J9) 11 rfl) rfl (by omega) (by decide) ?_
      obtain ⟨v13, hv13, ev13⟩ := vp_in_of (n := 17) (MI_bd J9 2 rfl (i := a0) (by omega)) (by decide)
      refine ex_top (w := nI v13) ev13 ?_
      refine ex_icmp_le (tgt := 82) ok_X12_asked (mi 46 rfl) rfl (fun h66 => ?_) (fun h66 => ?_)
      · skip
        refine ex_aload_n ok_X12_asked (mi 56 rfl) rfl ?_
        refine ex_getRx ok_X12_asked (mi 57 rfl) rfl rfl (fk (MI_s J9) 0 rfl) (fr (MI_s J9) 10 rfl) (fk (MI_s J9) 11 rfl) (by decide) ?_
        refine ex_iload_n ok_X12_asked (mi 58 rfl) rfl ?_
        refine sm_iald ok_X12_asked (mi 59 rfl) (fk (MI_s J9) 11 rfl) (fn (MI_s J9) 11 rfl) rfl (by omega) (by decide) ?_
        refine ex_top (w := nI v13) ev13 ?_
        refine mf_B J9 ok_X12_asked (mi 60 rfl) (fk (MI_s J9) 11 rfl) (fn (MI_s J9) 11 rfl) rfl (by omega) (by decide) (B := 17) (by decide) (by decide) (by decide) (vp_in_nI (N := 17) (by omega) (by decide)) (fun g14 J15 K16 => ?_)
        have mk17 := KK_mk K16 mk11
        refine ex_iconst ok_X12_asked (mi 61 rfl) ?_
        refine ex_istore_n ok_X12_asked (mi 62 rfl) ?_
        have lp91 : ∀ n91 k91 : Nat, k91 + n91 = 16 → ∀ (g18 : GT), MI y D c (fun j => R j ∨ j = a0) g18 → MK y g18 a1 4 m → ex_W G 5 0 0 M_X12_asked 91 [(0, .ref y), (1, .int (nI (a0))), (2, .int (nI (a1))), (3, .int (nI (k91)))] [] g18 (SM y D c R pN) := by
          intro n91
          induction n91 with
          | zero =>
            intro k91 he91  g18 J19 mk91_0
            obtain rfl : k91 = 16 := by omega
            refine ex_iload_n ok_X12_asked (mi 63 rfl) rfl ?_
            refine ex_aload_n ok_X12_asked (mi 64 rfl) rfl ?_
            refine ex_getRx ok_X12_asked (mi 65 rfl) rfl rfl (fk (MI_s J19) 0 rfl) (fr (MI_s J19) 53 rfl) (fk (MI_s J19) 54 rfl) (by decide) ?_
            refine ex_iload_n ok_X12_asked (mi 66 rfl) rfl ?_
            refine sm_iald ok_X12_asked (mi 67 rfl) (fk (MI_s J19) 54 rfl) (fn (MI_s J19) 54 rfl) rfl (by omega) (by decide) ?_
            refine ex_top (w := nI m) mk91_0.2.2.2.2.2.2.2.2.1 ?_
            refine ex_icmp_ge (tgt := 200) ok_X12_asked (mi 68 rfl) rfl (fun _ => ?_) (fun hn => absurd (nI_le (b := 16) (a := m) (by omega) (by omega)) hn)
            refine ex_iconst ok_X12_asked (mi 134 rfl) ?_
            refine ex_istore_n ok_X12_asked (mi 135 rfl) ?_
            refine ex_iconst ok_X12_asked (mi 136 rfl) ?_
            refine ex_istore ok_X12_asked (mi 137 rfl) ?_
            have lp205 : ∀ n205 k205 : Nat, k205 + n205 = 300 → ∀ (q20 : Int32) (g21 : GT), MI y D c (fun j => R j ∨ j = a0) g21 → MK y g21 a1 4 m → ex_W G 5 0 0 M_X12_asked 205 [(0, .ref y), (1, .int (nI (a0))), (2, .int (nI (a1))), (3, .int q20), (4, .int (nI (k205)))] [] g21 (SM y D c R pN) := by
              intro n205
              induction n205 with
              | zero =>
                intro k205 he205 q20 g21 J22 mk205_0
                obtain rfl : k205 = 300 := by omega
                refine ex_iload ok_X12_asked (mi 138 rfl) rfl ?_
                refine ex_sipush ok_X12_asked (mi 139 rfl) ?_
                refine ex_icmp_ge (tgt := 263) ok_X12_asked (mi 140 rfl) rfl (fun _ => ?_) (fun hn => absurd (by decide) hn)
                refine ex_iload_n ok_X12_asked (mi 167 rfl) rfl ?_
                refine ex_if_eq (tgt := 272) ok_X12_asked (mi 168 rfl) rfl (fun h264 => ?_) (fun h264 => ?_)
                · skip
                  refine ex_vret ok_X12_asked (mi 172 rfl) rfl ?_
                  exact ⟨_, rfl, rfl, (MI_Rw J22 (fun l k => (Or.inl k)))⟩
                · skip
                  refine ex_aload_n ok_X12_asked (mi 169 rfl) rfl ?_
                  refine ex_iload_n ok_X12_asked (mi 170 rfl) rfl ?_
                  refine sm_V (As := [_]) ok_X12_asked (mi 171 rfl) rfl (s_X12_lead hst J22 (by omega) (Or.inr rfl)) rfl (fk (MI_s J22) 0 rfl) rfl rfl (by decide) (by decide) (Nat.le_of_ble_eq_true rfl) (by decide) SM_no (fun z23 g25 p24 => ?_)
                  obtain ⟨u27, eu27, u27p, J26⟩ := p24
                  cases eu27
                  obtain rfl : z23 = none := u27p
                  refine ex_vret ok_X12_asked (mi 172 rfl) rfl ?_
                  exact ⟨_, rfl, rfl, (MI_Rw J26 (fun l k => (Or.inl k)))⟩
              | succ n205 ih205 =>
                intro k205 he205 q20 g21 J22 mk205_0
                have hr205 : k205 < 300 := by omega
                refine ex_iload ok_X12_asked (mi 138 rfl) rfl ?_
                refine ex_sipush ok_X12_asked (mi 139 rfl) ?_
                refine ex_icmp_ge (tgt := 263) ok_X12_asked (mi 140 rfl) rfl (fun hn => absurd hn (nI_ge (b := 300) hr205 (by decide))) (fun _ => ?_)
                refine ex_aload_n ok_X12_asked (mi 141 rfl) rfl ?_
                refine ex_getRx ok_X12_asked (mi 142 rfl) rfl rfl (fk (MI_s J22) 0 rfl) (fr (MI_s J22) 8 rfl) (fk (MI_s J22) 9 rfl) (by decide) ?_
                refine ex_sipush ok_X12_asked (mi 143 rfl) ?_
                refine ex_iload_n ok_X12_asked (mi 144 rfl) rfl ?_
                refine ex_imul ok_X12_asked (mi 145 rfl) ?_
                refine ex_top (w := (nI (300 * a0))) (nI_mulc rfl) ?_
                refine ex_iload ok_X12_asked (mi 146 rfl) rfl ?_
                refine ex_iadd ok_X12_asked (mi 147 rfl) ?_
                refine ex_top (w := (nI (300 * a0 + k205))) (nI_add _ _) ?_
                refine sm_iald ok_X12_asked (mi 148 rfl) (fk (MI_s J22) 9 rfl) (fn (MI_s J22) 9 rfl) rfl (by omega) (by decide) ?_
                refine ex_gen (fun w28 => ?_)
                refine ex_istore ok_X12_asked (mi 149 rfl) ?_
                refine ex_iload_n ok_X12_asked (mi 150 rfl) rfl ?_
                refine ex_if_eq (tgt := 255) ok_X12_asked (mi 151 rfl) rfl (fun h229 => ?_) (fun h229 => ?_)
                · skip
                  refine ex_iconst ok_X12_asked (mi 163 rfl) ?_
                  refine ex_istore_n ok_X12_asked (mi 164 rfl) ?_
                  refine ex_iincx (w := (nI (k205 + 1))) ok_X12_asked (mi 165 rfl) rfl (nI_1 _) ?_
                  refine ex_goto (tgt := 205) ok_X12_asked (mi 166 rfl) rfl ?_
                  exact ex_ls (ls' := [(0, .ref y), (1, .int (nI (a0))), (2, .int (nI (a1))), (3, .int (nI 0)), (4, .int (nI (k205 + 1)))]) ⟨rfl, rfl, rfl, rfl, rfl, trivial⟩ (ih205 (k205 + 1) (by omega) _ g21 J22 mk205_0)
                · skip
                  refine ex_iload ok_X12_asked (mi 152 rfl) rfl ?_
                  refine ex_if_eq (tgt := 251) ok_X12_asked (mi 153 rfl) rfl (fun h234 => ?_) (fun h234 => ?_)
                  · skip
                    refine ex_iconst ok_X12_asked (mi 161 rfl) ?_
                    refine ex_goto (tgt := 256) ok_X12_asked (mi 162 rfl) rfl ?_
                    refine ex_istore_n ok_X12_asked (mi 164 rfl) ?_
                    refine ex_iincx (w := (nI (k205 + 1))) ok_X12_asked (mi 165 rfl) rfl (nI_1 _) ?_
                    refine ex_goto (tgt := 205) ok_X12_asked (mi 166 rfl) rfl ?_
                    exact ex_ls (ls' := [(0, .ref y), (1, .int (nI (a0))), (2, .int (nI (a1))), (3, .int (nI 1)), (4, .int (nI (k205 + 1)))]) ⟨rfl, rfl, rfl, rfl, rfl, trivial⟩ (ih205 (k205 + 1) (by omega) _ g21 J22 mk205_0)
                  · skip
                    refine ex_aload_n ok_X12_asked (mi 154 rfl) rfl ?_
                    refine ex_getRx ok_X12_asked (mi 155 rfl) rfl rfl (fk (MI_s J22) 0 rfl) (fr (MI_s J22) 9 rfl) (fk (MI_s J22) 10 rfl) (by decide) ?_
                    refine ex_iload_n ok_X12_asked (mi 156 rfl) rfl ?_
                    refine sm_iald ok_X12_asked (mi 157 rfl) (fk (MI_s J22) 10 rfl) (fn (MI_s J22) 10 rfl) rfl (by omega) (by decide) ?_
                    refine ex_gen (fun w29 => ?_)
                    refine ex_iload ok_X12_asked (mi 158 rfl) rfl ?_
                    refine sf_Sp (As := [_, _]) ok_X12_asked (mi 159 rfl) rfl (s_X12_isMajority hst (MI_s J22)) rfl rfl rfl (by decide) (Nat.le_of_ble_eq_true rfl) (by decide) (fun z30 p31 => ?_)
                    obtain ⟨v34, rfl, hbv34⟩ := p31
                    refine ex_if_eq (tgt := 255) ok_X12_asked (mi 160 rfl) rfl (fun h248 => ?_) (fun h248 => ?_)
                    · skip
                      refine ex_iconst ok_X12_asked (mi 163 rfl) ?_
                      refine ex_istore_n ok_X12_asked (mi 164 rfl) ?_
                      refine ex_iincx (w := (nI (k205 + 1))) ok_X12_asked (mi 165 rfl) rfl (nI_1 _) ?_
                      refine ex_goto (tgt := 205) ok_X12_asked (mi 166 rfl) rfl ?_
                      exact ex_ls (ls' := [(0, .ref y), (1, .int (nI (a0))), (2, .int (nI (a1))), (3, .int (nI 0)), (4, .int (nI (k205 + 1)))]) ⟨rfl, rfl, rfl, rfl, rfl, trivial⟩ (ih205 (k205 + 1) (by omega) _ g21 J22 mk205_0)
                    · skip
                      refine ex_iconst ok_X12_asked (mi 161 rfl) ?_
                      refine ex_goto (tgt := 256) ok_X12_asked (mi 162 rfl) rfl ?_
                      refine ex_istore_n ok_X12_asked (mi 164 rfl) ?_
                      refine ex_iincx (w := (nI (k205 + 1))) ok_X12_asked (mi 165 rfl) rfl (nI_1 _) ?_
                      refine ex_goto (tgt := 205) ok_X12_asked (mi 166 rfl) rfl ?_
                      exact ex_ls (ls' := [(0, .ref y), (1, .int (nI (a0))), (2, .int (nI (a1))), (3, .int (nI 1)), (4, .int (nI (k205 + 1)))]) ⟨rfl, rfl, rfl, rfl, rfl, trivial⟩ (ih205 (k205 + 1) (by omega) _ g21 J22 mk205_0)
            exact ex_ls (ls' := [(0, .ref y), (1, .int (nI (a0))), (2, .int (nI (a1))), (3, .int (nI 1)), (4, .int (nI 0))]) ⟨rfl, rfl, rfl, rfl, rfl, trivial⟩ (lp205 (300 - 0) (0) (by omega) _ g18 J19 mk91_0)
          | succ n91 ih91 =>
            intro k91 he91  g18 J19 mk91_0
            have hr91 : k91 < 16 := by omega
            refine ex_iload_n ok_X12_asked (mi 63 rfl) rfl ?_
            refine ex_aload_n ok_X12_asked (mi 64 rfl) rfl ?_
            refine ex_getRx ok_X12_asked (mi 65 rfl) rfl rfl (fk (MI_s J19) 0 rfl) (fr (MI_s J19) 53 rfl) (fk (MI_s J19) 54 rfl) (by decide) ?_
            refine ex_iload_n ok_X12_asked (mi 66 rfl) rfl ?_
            refine sm_iald ok_X12_asked (mi 67 rfl) (fk (MI_s J19) 54 rfl) (fn (MI_s J19) 54 rfl) rfl (by omega) (by decide) ?_
            refine ex_top (w := nI m) mk91_0.2.2.2.2.2.2.2.2.1 ?_
            refine ex_icmp_ge (tgt := 200) ok_X12_asked (mi 68 rfl) rfl (fun h98 => ?_) (fun h98 => ?_)
            · skip
              refine ex_iconst ok_X12_asked (mi 134 rfl) ?_
              refine ex_istore_n ok_X12_asked (mi 135 rfl) ?_
              refine ex_iconst ok_X12_asked (mi 136 rfl) ?_
              refine ex_istore ok_X12_asked (mi 137 rfl) ?_
              have lp205 : ∀ n205 k205 : Nat, k205 + n205 = 300 → ∀ (q35 : Int32) (g36 : GT), MI y D c (fun j => R j ∨ j = a0) g36 → MK y g36 a1 4 m → ex_W G 5 0 0 M_X12_asked 205 [(0, .ref y), (1, .int (nI (a0))), (2, .int (nI (a1))), (3, .int q35), (4, .int (nI (k205)))] [] g36 (SM y D c R pN) := by
                intro n205
                induction n205 with
                | zero =>
                  intro k205 he205 q35 g36 J37 mk205_0
                  obtain rfl : k205 = 300 := by omega
                  refine ex_iload ok_X12_asked (mi 138 rfl) rfl ?_
                  refine ex_sipush ok_X12_asked (mi 139 rfl) ?_
                  refine ex_icmp_ge (tgt := 263) ok_X12_asked (mi 140 rfl) rfl (fun _ => ?_) (fun hn => absurd (by decide) hn)
                  refine ex_iload_n ok_X12_asked (mi 167 rfl) rfl ?_
                  refine ex_if_eq (tgt := 272) ok_X12_asked (mi 168 rfl) rfl (fun h264 => ?_) (fun h264 => ?_)
                  · skip
                    refine ex_vret ok_X12_asked (mi 172 rfl) rfl ?_
                    exact ⟨_, rfl, rfl, (MI_Rw J37 (fun l k => (Or.inl k)))⟩
                  · skip
                    refine ex_aload_n ok_X12_asked (mi 169 rfl) rfl ?_
                    refine ex_iload_n ok_X12_asked (mi 170 rfl) rfl ?_
                    refine sm_V (As := [_]) ok_X12_asked (mi 171 rfl) rfl (s_X12_lead hst J37 (by omega) (Or.inr rfl)) rfl (fk (MI_s J37) 0 rfl) rfl rfl (by decide) (by decide) (Nat.le_of_ble_eq_true rfl) (by decide) SM_no (fun z38 g40 p39 => ?_)
                    obtain ⟨u42, eu42, u42p, J41⟩ := p39
                    cases eu42
                    obtain rfl : z38 = none := u42p
                    refine ex_vret ok_X12_asked (mi 172 rfl) rfl ?_
                    exact ⟨_, rfl, rfl, (MI_Rw J41 (fun l k => (Or.inl k)))⟩
                | succ n205 ih205 =>
                  intro k205 he205 q35 g36 J37 mk205_0
                  have hr205 : k205 < 300 := by omega
                  refine ex_iload ok_X12_asked (mi 138 rfl) rfl ?_
                  refine ex_sipush ok_X12_asked (mi 139 rfl) ?_
                  refine ex_icmp_ge (tgt := 263) ok_X12_asked (mi 140 rfl) rfl (fun hn => absurd hn (nI_ge (b := 300) hr205 (by decide))) (fun _ => ?_)
                  refine ex_aload_n ok_X12_asked (mi 141 rfl) rfl ?_
                  refine ex_getRx ok_X12_asked (mi 142 rfl) rfl rfl (fk (MI_s J37) 0 rfl) (fr (MI_s J37) 8 rfl) (fk (MI_s J37) 9 rfl) (by decide) ?_
                  refine ex_sipush ok_X12_asked (mi 143 rfl) ?_
                  refine ex_iload_n ok_X12_asked (mi 144 rfl) rfl ?_
                  refine ex_imul ok_X12_asked (mi 145 rfl) ?_
                  refine ex_top (w := (nI (300 * a0))) (nI_mulc rfl) ?_
                  refine ex_iload ok_X12_asked (mi 146 rfl) rfl ?_
                  refine ex_iadd ok_X12_asked (mi 147 rfl) ?_
                  refine ex_top (w := (nI (300 * a0 + k205))) (nI_add _ _) ?_
                  refine sm_iald ok_X12_asked (mi 148 rfl) (fk (MI_s J37) 9 rfl) (fn (MI_s J37) 9 rfl) rfl (by omega) (by decide) ?_
                  refine ex_gen (fun w43 => ?_)
                  refine ex_istore ok_X12_asked (mi 149 rfl) ?_
                  refine ex_iload_n ok_X12_asked (mi 150 rfl) rfl ?_
                  refine ex_if_eq (tgt := 255) ok_X12_asked (mi 151 rfl) rfl (fun h229 => ?_) (fun h229 => ?_)
                  · skip
                    refine ex_iconst ok_X12_asked (mi 163 rfl) ?_
                    refine ex_istore_n ok_X12_asked (mi 164 rfl) ?_
                    refine ex_iincx (w := (nI (k205 + 1))) ok_X12_asked (mi 165 rfl) rfl (nI_1 _) ?_
                    refine ex_goto (tgt := 205) ok_X12_asked (mi 166 rfl) rfl ?_
                    exact ex_ls (ls' := [(0, .ref y), (1, .int (nI (a0))), (2, .int (nI (a1))), (3, .int (nI 0)), (4, .int (nI (k205 + 1)))]) ⟨rfl, rfl, rfl, rfl, rfl, trivial⟩ (ih205 (k205 + 1) (by omega) _ g36 J37 mk205_0)
                  · skip
                    refine ex_iload ok_X12_asked (mi 152 rfl) rfl ?_
                    refine ex_if_eq (tgt := 251) ok_X12_asked (mi 153 rfl) rfl (fun h234 => ?_) (fun h234 => ?_)
                    · skip
                      refine ex_iconst ok_X12_asked (mi 161 rfl) ?_
                      refine ex_goto (tgt := 256) ok_X12_asked (mi 162 rfl) rfl ?_
                      refine ex_istore_n ok_X12_asked (mi 164 rfl) ?_
                      refine ex_iincx (w := (nI (k205 + 1))) ok_X12_asked (mi 165 rfl) rfl (nI_1 _) ?_
                      refine ex_goto (tgt := 205) ok_X12_asked (mi 166 rfl) rfl ?_
                      exact ex_ls (ls' := [(0, .ref y), (1, .int (nI (a0))), (2, .int (nI (a1))), (3, .int (nI 1)), (4, .int (nI (k205 + 1)))]) ⟨rfl, rfl, rfl, rfl, rfl, trivial⟩ (ih205 (k205 + 1) (by omega) _ g36 J37 mk205_0)
                    · skip
                      refine ex_aload_n ok_X12_asked (mi 154 rfl) rfl ?_
                      refine ex_getRx ok_X12_asked (mi 155 rfl) rfl rfl (fk (MI_s J37) 0 rfl) (fr (MI_s J37) 9 rfl) (fk (MI_s J37) 10 rfl) (by decide) ?_
                      refine ex_iload_n ok_X12_asked (mi 156 rfl) rfl ?_
                      refine sm_iald ok_X12_asked (mi 157 rfl) (fk (MI_s J37) 10 rfl) (fn (MI_s J37) 10 rfl) rfl (by omega) (by decide) ?_
                      refine ex_gen (fun w44 => ?_)
                      refine ex_iload ok_X12_asked (mi 158 rfl) rfl ?_
                      refine sf_Sp (As := [_, _]) ok_X12_asked (mi 159 rfl) rfl (s_X12_isMajority hst (MI_s J37)) rfl rfl rfl (by decide) (Nat.le_of_ble_eq_true rfl) (by decide) (fun z45 p46 => ?_)
                      obtain ⟨v49, rfl, hbv49⟩ := p46
                      refine ex_if_eq (tgt := 255) ok_X12_asked (mi 160 rfl) rfl (fun h248 => ?_) (fun h248 => ?_)
                      · skip
                        refine ex_iconst ok_X12_asked (mi 163 rfl) ?_
                        refine ex_istore_n ok_X12_asked (mi 164 rfl) ?_
                        refine ex_iincx (w := (nI (k205 + 1))) ok_X12_asked (mi 165 rfl) rfl (nI_1 _) ?_
                        refine ex_goto (tgt := 205) ok_X12_asked (mi 166 rfl) rfl ?_
                        exact ex_ls (ls' := [(0, .ref y), (1, .int (nI (a0))), (2, .int (nI (a1))), (3, .int (nI 0)), (4, .int (nI (k205 + 1)))]) ⟨rfl, rfl, rfl, rfl, rfl, trivial⟩ (ih205 (k205 + 1) (by omega) _ g36 J37 mk205_0)
                      · skip
                        refine ex_iconst ok_X12_asked (mi 161 rfl) ?_
                        refine ex_goto (tgt := 256) ok_X12_asked (mi 162 rfl) rfl ?_
                        refine ex_istore_n ok_X12_asked (mi 164 rfl) ?_
                        refine ex_iincx (w := (nI (k205 + 1))) ok_X12_asked (mi 165 rfl) rfl (nI_1 _) ?_
                        refine ex_goto (tgt := 205) ok_X12_asked (mi 166 rfl) rfl ?_
                        exact ex_ls (ls' := [(0, .ref y), (1, .int (nI (a0))), (2, .int (nI (a1))), (3, .int (nI 1)), (4, .int (nI (k205 + 1)))]) ⟨rfl, rfl, rfl, rfl, rfl, trivial⟩ (ih205 (k205 + 1) (by omega) _ g36 J37 mk205_0)
              exact ex_ls (ls' := [(0, .ref y), (1, .int (nI (a0))), (2, .int (nI (a1))), (3, .int (nI 1)), (4, .int (nI 0))]) ⟨rfl, rfl, rfl, rfl, rfl, trivial⟩ (lp205 (300 - 0) (0) (by omega) _ g18 J19 mk91_0)
            · skip
              have l98 : k91 < m := Nat.lt_of_not_le (fun q => h98 (nI_le q (by omega)))
              refine ex_aload_n ok_X12_asked (mi 69 rfl) rfl ?_
              refine ex_getRx ok_X12_asked (mi 70 rfl) rfl rfl (fk (MI_s J19) 0 rfl) (fr (MI_s J19) 55 rfl) (fk (MI_s J19) 56 rfl) (by decide) ?_
              refine ex_sipush ok_X12_asked (mi 71 rfl) ?_
              refine ex_iload_n ok_X12_asked (mi 72 rfl) rfl ?_
              refine ex_imul ok_X12_asked (mi 73 rfl) ?_
              refine ex_top (w := (nI (600 * a1))) (nI_mulc rfl) ?_
              refine ex_iconst ok_X12_asked (mi 74 rfl) ?_
              refine ex_iload_n ok_X12_asked (mi 75 rfl) rfl ?_
              refine ex_imul ok_X12_asked (mi 76 rfl) ?_
              refine ex_top (w := (nI (3 * k91))) (nI_mulc rfl) ?_
              refine ex_iadd ok_X12_asked (mi 77 rfl) ?_
              refine ex_top (w := (nI (600 * a1 + 3 * k91))) (nI_add _ _) ?_
              refine sm_iald ok_X12_asked (mi 78 rfl) (fk (MI_s J19) 56 rfl) (fn (MI_s J19) 56 rfl) rfl (by omega) (by decide) ?_
              obtain ⟨v50, hv50, ev50⟩ := vp_in_of (n := 16) (mk91_0.2.2.2.2.2.2.2.2.2.2 rfl k91 (by omega)) (by decide)
              refine ex_top (w := nI v50) ev50 ?_
              refine ex_istore ok_X12_asked (mi 79 rfl) ?_
              refine ex_aload_n ok_X12_asked (mi 80 rfl) rfl ?_
              refine ex_getRx ok_X12_asked (mi 81 rfl) rfl rfl (fk (MI_s J19) 0 rfl) (fr (MI_s J19) 55 rfl) (fk (MI_s J19) 56 rfl) (by decide) ?_
              refine ex_sipush ok_X12_asked (mi 82 rfl) ?_
              refine ex_iload_n ok_X12_asked (mi 83 rfl) rfl ?_
              refine ex_imul ok_X12_asked (mi 84 rfl) ?_
              refine ex_top (w := (nI (600 * a1))) (nI_mulc rfl) ?_
              refine ex_iconst ok_X12_asked (mi 85 rfl) ?_
              refine ex_iload_n ok_X12_asked (mi 86 rfl) rfl ?_
              refine ex_imul ok_X12_asked (mi 87 rfl) ?_
              refine ex_top (w := (nI (3 * k91))) (nI_mulc rfl) ?_
              refine ex_iadd ok_X12_asked (mi 88 rfl) ?_
              refine ex_top (w := (nI (600 * a1 + 3 * k91))) (nI_add _ _) ?_
              refine ex_iconst ok_X12_asked (mi 89 rfl) ?_
              refine ex_iadd ok_X12_asked (mi 90 rfl) ?_
              refine ex_top (w := (nI (600 * a1 + 3 * k91 + 1))) (nI_add _ 1) ?_
              refine sm_iald ok_X12_asked (mi 91 rfl) (fk (MI_s J19) 56 rfl) (fn (MI_s J19) 56 rfl) rfl (by omega) (by decide) ?_
              refine ex_gen (fun w51 => ?_)
              refine ex_istore ok_X12_asked (mi 92 rfl) ?_
              refine ex_iload ok_X12_asked (mi 93 rfl) rfl ?_
              refine ex_aload_n ok_X12_asked (mi 94 rfl) rfl ?_
              refine ex_getRx ok_X12_asked (mi 95 rfl) rfl rfl (fk (MI_s J19) 0 rfl) (fr (MI_s J19) 11 rfl) (fk (MI_s J19) 12 rfl) (by decide) ?_
              refine ex_bipush ok_X12_asked (mi 96 rfl) ?_
              refine ex_iload_n ok_X12_asked (mi 97 rfl) rfl ?_
              refine ex_imul ok_X12_asked (mi 98 rfl) ?_
              refine ex_top (w := (nI (16 * a0))) (nI_mulc rfl) ?_
              refine ex_iload ok_X12_asked (mi 99 rfl) rfl ?_
              refine ex_iadd ok_X12_asked (mi 100 rfl) ?_
              refine ex_top (w := (nI (16 * a0 + v50))) (nI_add _ _) ?_
              refine sm_iald ok_X12_asked (mi 101 rfl) (fk (MI_s J19) 12 rfl) (fn (MI_s J19) 12 rfl) rfl (by omega) (by decide) ?_
              refine ex_gen (fun w52 => ?_)
              refine ex_icmp_le (tgt := 194) ok_X12_asked (mi 102 rfl) rfl (fun h149 => ?_) (fun h149 => ?_)
              · skip
                refine ex_iincx (w := (nI (k91 + 1))) ok_X12_asked (mi 132 rfl) rfl (nI_1 _) ?_
                refine ex_goto (tgt := 91) ok_X12_asked (mi 133 rfl) rfl ?_
                exact ex_ls (ls' := [(0, .ref y), (1, .int (nI (a0))), (2, .int (nI (a1))), (3, .int (nI (k91 + 1)))]) ⟨rfl, rfl, rfl, rfl, trivial⟩ (ih91 (k91 + 1) (by omega) g18 J19 mk91_0)
              · skip
                refine ex_aload_n ok_X12_asked (mi 103 rfl) rfl ?_
                refine ex_getRx ok_X12_asked (mi 104 rfl) rfl rfl (fk (MI_s J19) 0 rfl) (fr (MI_s J19) 11 rfl) (fk (MI_s J19) 12 rfl) (by decide) ?_
                refine ex_bipush ok_X12_asked (mi 105 rfl) ?_
                refine ex_iload_n ok_X12_asked (mi 106 rfl) rfl ?_
                refine ex_imul ok_X12_asked (mi 107 rfl) ?_
                refine ex_top (w := (nI (16 * a0))) (nI_mulc rfl) ?_
                refine ex_iload ok_X12_asked (mi 108 rfl) rfl ?_
                refine ex_iadd ok_X12_asked (mi 109 rfl) ?_
                refine ex_top (w := (nI (16 * a0 + v50))) (nI_add _ _) ?_
                refine ex_iload ok_X12_asked (mi 110 rfl) rfl ?_
                refine mf_A J19 ok_X12_asked (mi 111 rfl) (fk (MI_s J19) 12 rfl) (fn (MI_s J19) 12 rfl) rfl (by omega) (by decide) (by decide) (by decide) (by decide) (fun g53 J54 K55 => ?_)
                have mk56 := KK_mk K55 mk91_0
                refine ex_aload_n ok_X12_asked (mi 112 rfl) rfl ?_
                refine ex_getRx ok_X12_asked (mi 113 rfl) rfl rfl (fk (MI_s J54) 0 rfl) (fr (MI_s J54) 12 rfl) (fk (MI_s J54) 13 rfl) (by decide) ?_
                refine ex_bipush ok_X12_asked (mi 114 rfl) ?_
                refine ex_iload_n ok_X12_asked (mi 115 rfl) rfl ?_
                refine ex_imul ok_X12_asked (mi 116 rfl) ?_
                refine ex_top (w := (nI (16 * a0))) (nI_mulc rfl) ?_
                refine ex_iload ok_X12_asked (mi 117 rfl) rfl ?_
                refine ex_iadd ok_X12_asked (mi 118 rfl) ?_
                refine ex_top (w := (nI (16 * a0 + v50))) (nI_add _ _) ?_
                refine ex_aload_n ok_X12_asked (mi 119 rfl) rfl ?_
                refine ex_getRx ok_X12_asked (mi 120 rfl) rfl rfl (fk (MI_s J54) 0 rfl) (fr (MI_s J54) 55 rfl) (fk (MI_s J54) 56 rfl) (by decide) ?_
                refine ex_sipush ok_X12_asked (mi 121 rfl) ?_
                refine ex_iload_n ok_X12_asked (mi 122 rfl) rfl ?_
                refine ex_imul ok_X12_asked (mi 123 rfl) ?_
                refine ex_top (w := (nI (600 * a1))) (nI_mulc rfl) ?_
                refine ex_iconst ok_X12_asked (mi 124 rfl) ?_
                refine ex_iload_n ok_X12_asked (mi 125 rfl) rfl ?_
                refine ex_imul ok_X12_asked (mi 126 rfl) ?_
                refine ex_top (w := (nI (3 * k91))) (nI_mulc rfl) ?_
                refine ex_iadd ok_X12_asked (mi 127 rfl) ?_
                refine ex_top (w := (nI (600 * a1 + 3 * k91))) (nI_add _ _) ?_
                refine ex_iconst ok_X12_asked (mi 128 rfl) ?_
                refine ex_iadd ok_X12_asked (mi 129 rfl) ?_
                refine ex_top (w := (nI (600 * a1 + 3 * k91 + 2))) (nI_add _ 2) ?_
                refine sm_iald ok_X12_asked (mi 130 rfl) (fk (MI_s J54) 56 rfl) (fn (MI_s J54) 56 rfl) rfl (by omega) (by decide) ?_
                refine ex_gen (fun w57 => ?_)
                refine mf_A J54 ok_X12_asked (mi 131 rfl) (fk (MI_s J54) 13 rfl) (fn (MI_s J54) 13 rfl) rfl (by omega) (by decide) (by decide) (by decide) (by decide) (fun g58 J59 K60 => ?_)
                have mk61 := KK_mk K60 mk56
                refine ex_iincx (w := (nI (k91 + 1))) ok_X12_asked (mi 132 rfl) rfl (nI_1 _) ?_
                refine ex_goto (tgt := 91) ok_X12_asked (mi 133 rfl) rfl ?_
                exact ex_ls (ls' := [(0, .ref y), (1, .int (nI (a0))), (2, .int (nI (a1))), (3, .int (nI (k91 + 1)))]) ⟨rfl, rfl, rfl, rfl, trivial⟩ (ih91 (k91 + 1) (by omega) g58 J59 mk61)
        exact ex_ls (ls' := [(0, .ref y), (1, .int (nI (a0))), (2, .int (nI (a1))), (3, .int (nI 0))]) ⟨rfl, rfl, rfl, rfl, trivial⟩ (lp91 (16 - 0) (0) (by omega) g14 J15 mk17)
      · skip
        refine ex_aload_n ok_X12_asked (mi 47 rfl) rfl ?_
        refine ex_getRx ok_X12_asked (mi 48 rfl) rfl rfl (fk (MI_s J9) 0 rfl) (fr (MI_s J9) 52 rfl) (fk (MI_s J9) 53 rfl) (by decide) ?_
        refine ex_iconst ok_X12_asked (mi 49 rfl) ?_
        refine ex_iload_n ok_X12_asked (mi 50 rfl) rfl ?_
        refine ex_imul ok_X12_asked (mi 51 rfl) ?_
        refine ex_top (w := (nI (3 * a1))) (nI_mulc rfl) ?_
        refine ex_iconst ok_X12_asked (mi 52 rfl) ?_
        refine ex_iadd ok_X12_asked (mi 53 rfl) ?_
        refine ex_top (w := (nI (3 * a1 + 1))) (nI_add _ 1) ?_
        refine sm_iald ok_X12_asked (mi 54 rfl) (fk (MI_s J9) 53 rfl) (fn (MI_s J9) 53 rfl) rfl (by omega) (by decide) ?_
        obtain ⟨v62, hv62, ev62⟩ := vp_in_of (n := 17) (vb_in mk11.2.2.2.2.1 (by decide)) (by decide)
        refine ex_top (w := nI v62) ev62 ?_
        refine ex_goto (tgt := 88) ok_X12_asked (mi 55 rfl) rfl ?_
        refine mf_B J9 ok_X12_asked (mi 60 rfl) (fk (MI_s J9) 11 rfl) (fn (MI_s J9) 11 rfl) rfl (by omega) (by decide) (B := 17) (by decide) (by decide) (by decide) (vp_in_nI (N := 17) (by omega) (by decide)) (fun g63 J64 K65 => ?_)
        have mk66 := KK_mk K65 mk11
        refine ex_iconst ok_X12_asked (mi 61 rfl) ?_
        refine ex_istore_n ok_X12_asked (mi 62 rfl) ?_
        have lp91 : ∀ n91 k91 : Nat, k91 + n91 = 16 → ∀ (g67 : GT), MI y D c (fun j => R j ∨ j = a0) g67 → MK y g67 a1 4 m → ex_W G 5 0 0 M_X12_asked 91 [(0, .ref y), (1, .int (nI (a0))), (2, .int (nI (a1))), (3, .int (nI (k91)))] [] g67 (SM y D c R pN) := by
          intro n91
          induction n91 with
          | zero =>
            intro k91 he91  g67 J68 mk91_0
            obtain rfl : k91 = 16 := by omega
            refine ex_iload_n ok_X12_asked (mi 63 rfl) rfl ?_
            refine ex_aload_n ok_X12_asked (mi 64 rfl) rfl ?_
            refine ex_getRx ok_X12_asked (mi 65 rfl) rfl rfl (fk (MI_s J68) 0 rfl) (fr (MI_s J68) 53 rfl) (fk (MI_s J68) 54 rfl) (by decide) ?_
            refine ex_iload_n ok_X12_asked (mi 66 rfl) rfl ?_
            refine sm_iald ok_X12_asked (mi 67 rfl) (fk (MI_s J68) 54 rfl) (fn (MI_s J68) 54 rfl) rfl (by omega) (by decide) ?_
            refine ex_top (w := nI m) mk91_0.2.2.2.2.2.2.2.2.1 ?_
            refine ex_icmp_ge (tgt := 200) ok_X12_asked (mi 68 rfl) rfl (fun _ => ?_) (fun hn => absurd (nI_le (b := 16) (a := m) (by omega) (by omega)) hn)
            refine ex_iconst ok_X12_asked (mi 134 rfl) ?_
            refine ex_istore_n ok_X12_asked (mi 135 rfl) ?_
            refine ex_iconst ok_X12_asked (mi 136 rfl) ?_
            refine ex_istore ok_X12_asked (mi 137 rfl) ?_
            have lp205 : ∀ n205 k205 : Nat, k205 + n205 = 300 → ∀ (q69 : Int32) (g70 : GT), MI y D c (fun j => R j ∨ j = a0) g70 → MK y g70 a1 4 m → ex_W G 5 0 0 M_X12_asked 205 [(0, .ref y), (1, .int (nI (a0))), (2, .int (nI (a1))), (3, .int q69), (4, .int (nI (k205)))] [] g70 (SM y D c R pN) := by
              intro n205
              induction n205 with
              | zero =>
                intro k205 he205 q69 g70 J71 mk205_0
                obtain rfl : k205 = 300 := by omega
                refine ex_iload ok_X12_asked (mi 138 rfl) rfl ?_
                refine ex_sipush ok_X12_asked (mi 139 rfl) ?_
                refine ex_icmp_ge (tgt := 263) ok_X12_asked (mi 140 rfl) rfl (fun _ => ?_) (fun hn => absurd (by decide) hn)
                refine ex_iload_n ok_X12_asked (mi 167 rfl) rfl ?_
                refine ex_if_eq (tgt := 272) ok_X12_asked (mi 168 rfl) rfl (fun h264 => ?_) (fun h264 => ?_)
                · skip
                  refine ex_vret ok_X12_asked (mi 172 rfl) rfl ?_
                  exact ⟨_, rfl, rfl, (MI_Rw J71 (fun l k => (Or.inl k)))⟩
                · skip
                  refine ex_aload_n ok_X12_asked (mi 169 rfl) rfl ?_
                  refine ex_iload_n ok_X12_asked (mi 170 rfl) rfl ?_
                  refine sm_V (As := [_]) ok_X12_asked (mi 171 rfl) rfl (s_X12_lead hst J71 (by omega) (Or.inr rfl)) rfl (fk (MI_s J71) 0 rfl) rfl rfl (by decide) (by decide) (Nat.le_of_ble_eq_true rfl) (by decide) SM_no (fun z72 g74 p73 => ?_)
                  obtain ⟨u76, eu76, u76p, J75⟩ := p73
                  cases eu76
                  obtain rfl : z72 = none := u76p
                  refine ex_vret ok_X12_asked (mi 172 rfl) rfl ?_
                  exact ⟨_, rfl, rfl, (MI_Rw J75 (fun l k => (Or.inl k)))⟩
              | succ n205 ih205 =>
                intro k205 he205 q69 g70 J71 mk205_0
                have hr205 : k205 < 300 := by omega
                refine ex_iload ok_X12_asked (mi 138 rfl) rfl ?_
                refine ex_sipush ok_X12_asked (mi 139 rfl) ?_
                refine ex_icmp_ge (tgt := 263) ok_X12_asked (mi 140 rfl) rfl (fun hn => absurd hn (nI_ge (b := 300) hr205 (by decide))) (fun _ => ?_)
                refine ex_aload_n ok_X12_asked (mi 141 rfl) rfl ?_
                refine ex_getRx ok_X12_asked (mi 142 rfl) rfl rfl (fk (MI_s J71) 0 rfl) (fr (MI_s J71) 8 rfl) (fk (MI_s J71) 9 rfl) (by decide) ?_
                refine ex_sipush ok_X12_asked (mi 143 rfl) ?_
                refine ex_iload_n ok_X12_asked (mi 144 rfl) rfl ?_
                refine ex_imul ok_X12_asked (mi 145 rfl) ?_
                refine ex_top (w := (nI (300 * a0))) (nI_mulc rfl) ?_
                refine ex_iload ok_X12_asked (mi 146 rfl) rfl ?_
                refine ex_iadd ok_X12_asked (mi 147 rfl) ?_
                refine ex_top (w := (nI (300 * a0 + k205))) (nI_add _ _) ?_
                refine sm_iald ok_X12_asked (mi 148 rfl) (fk (MI_s J71) 9 rfl) (fn (MI_s J71) 9 rfl) rfl (by omega) (by decide) ?_
                refine ex_gen (fun w77 => ?_)
                refine ex_istore ok_X12_asked (mi 149 rfl) ?_
                refine ex_iload_n ok_X12_asked (mi 150 rfl) rfl ?_
                refine ex_if_eq (tgt := 255) ok_X12_asked (mi 151 rfl) rfl (fun h229 => ?_) (fun h229 => ?_)
                · skip
                  refine ex_iconst ok_X12_asked (mi 163 rfl) ?_
                  refine ex_istore_n ok_X12_asked (mi 164 rfl) ?_
                  refine ex_iincx (w := (nI (k205 + 1))) ok_X12_asked (mi 165 rfl) rfl (nI_1 _) ?_
                  refine ex_goto (tgt := 205) ok_X12_asked (mi 166 rfl) rfl ?_
                  exact ex_ls (ls' := [(0, .ref y), (1, .int (nI (a0))), (2, .int (nI (a1))), (3, .int (nI 0)), (4, .int (nI (k205 + 1)))]) ⟨rfl, rfl, rfl, rfl, rfl, trivial⟩ (ih205 (k205 + 1) (by omega) _ g70 J71 mk205_0)
                · skip
                  refine ex_iload ok_X12_asked (mi 152 rfl) rfl ?_
                  refine ex_if_eq (tgt := 251) ok_X12_asked (mi 153 rfl) rfl (fun h234 => ?_) (fun h234 => ?_)
                  · skip
                    refine ex_iconst ok_X12_asked (mi 161 rfl) ?_
                    refine ex_goto (tgt := 256) ok_X12_asked (mi 162 rfl) rfl ?_
                    refine ex_istore_n ok_X12_asked (mi 164 rfl) ?_
                    refine ex_iincx (w := (nI (k205 + 1))) ok_X12_asked (mi 165 rfl) rfl (nI_1 _) ?_
                    refine ex_goto (tgt := 205) ok_X12_asked (mi 166 rfl) rfl ?_
                    exact ex_ls (ls' := [(0, .ref y), (1, .int (nI (a0))), (2, .int (nI (a1))), (3, .int (nI 1)), (4, .int (nI (k205 + 1)))]) ⟨rfl, rfl, rfl, rfl, rfl, trivial⟩ (ih205 (k205 + 1) (by omega) _ g70 J71 mk205_0)
                  · skip
                    refine ex_aload_n ok_X12_asked (mi 154 rfl) rfl ?_
                    refine ex_getRx ok_X12_asked (mi 155 rfl) rfl rfl (fk (MI_s J71) 0 rfl) (fr (MI_s J71) 9 rfl) (fk (MI_s J71) 10 rfl) (by decide) ?_
                    refine ex_iload_n ok_X12_asked (mi 156 rfl) rfl ?_
                    refine sm_iald ok_X12_asked (mi 157 rfl) (fk (MI_s J71) 10 rfl) (fn (MI_s J71) 10 rfl) rfl (by omega) (by decide) ?_
                    refine ex_gen (fun w78 => ?_)
                    refine ex_iload ok_X12_asked (mi 158 rfl) rfl ?_
                    refine sf_Sp (As := [_, _]) ok_X12_asked (mi 159 rfl) rfl (s_X12_isMajority hst (MI_s J71)) rfl rfl rfl (by decide) (Nat.le_of_ble_eq_true rfl) (by decide) (fun z79 p80 => ?_)
                    obtain ⟨v83, rfl, hbv83⟩ := p80
                    refine ex_if_eq (tgt := 255) ok_X12_asked (mi 160 rfl) rfl (fun h248 => ?_) (fun h248 => ?_)
                    · skip
                      refine ex_iconst ok_X12_asked (mi 163 rfl) ?_
                      refine ex_istore_n ok_X12_asked (mi 164 rfl) ?_
                      refine ex_iincx (w := (nI (k205 + 1))) ok_X12_asked (mi 165 rfl) rfl (nI_1 _) ?_
                      refine ex_goto (tgt := 205) ok_X12_asked (mi 166 rfl) rfl ?_
                      exact ex_ls (ls' := [(0, .ref y), (1, .int (nI (a0))), (2, .int (nI (a1))), (3, .int (nI 0)), (4, .int (nI (k205 + 1)))]) ⟨rfl, rfl, rfl, rfl, rfl, trivial⟩ (ih205 (k205 + 1) (by omega) _ g70 J71 mk205_0)
                    · skip
                      refine ex_iconst ok_X12_asked (mi 161 rfl) ?_
                      refine ex_goto (tgt := 256) ok_X12_asked (mi 162 rfl) rfl ?_
                      refine ex_istore_n ok_X12_asked (mi 164 rfl) ?_
                      refine ex_iincx (w := (nI (k205 + 1))) ok_X12_asked (mi 165 rfl) rfl (nI_1 _) ?_
                      refine ex_goto (tgt := 205) ok_X12_asked (mi 166 rfl) rfl ?_
                      exact ex_ls (ls' := [(0, .ref y), (1, .int (nI (a0))), (2, .int (nI (a1))), (3, .int (nI 1)), (4, .int (nI (k205 + 1)))]) ⟨rfl, rfl, rfl, rfl, rfl, trivial⟩ (ih205 (k205 + 1) (by omega) _ g70 J71 mk205_0)
            exact ex_ls (ls' := [(0, .ref y), (1, .int (nI (a0))), (2, .int (nI (a1))), (3, .int (nI 1)), (4, .int (nI 0))]) ⟨rfl, rfl, rfl, rfl, rfl, trivial⟩ (lp205 (300 - 0) (0) (by omega) _ g67 J68 mk91_0)
          | succ n91 ih91 =>
            intro k91 he91  g67 J68 mk91_0
            have hr91 : k91 < 16 := by omega
            refine ex_iload_n ok_X12_asked (mi 63 rfl) rfl ?_
            refine ex_aload_n ok_X12_asked (mi 64 rfl) rfl ?_
            refine ex_getRx ok_X12_asked (mi 65 rfl) rfl rfl (fk (MI_s J68) 0 rfl) (fr (MI_s J68) 53 rfl) (fk (MI_s J68) 54 rfl) (by decide) ?_
            refine ex_iload_n ok_X12_asked (mi 66 rfl) rfl ?_
            refine sm_iald ok_X12_asked (mi 67 rfl) (fk (MI_s J68) 54 rfl) (fn (MI_s J68) 54 rfl) rfl (by omega) (by decide) ?_
            refine ex_top (w := nI m) mk91_0.2.2.2.2.2.2.2.2.1 ?_
            refine ex_icmp_ge (tgt := 200) ok_X12_asked (mi 68 rfl) rfl (fun h98 => ?_) (fun h98 => ?_)
            · skip
              refine ex_iconst ok_X12_asked (mi 134 rfl) ?_
              refine ex_istore_n ok_X12_asked (mi 135 rfl) ?_
              refine ex_iconst ok_X12_asked (mi 136 rfl) ?_
              refine ex_istore ok_X12_asked (mi 137 rfl) ?_
              have lp205 : ∀ n205 k205 : Nat, k205 + n205 = 300 → ∀ (q84 : Int32) (g85 : GT), MI y D c (fun j => R j ∨ j = a0) g85 → MK y g85 a1 4 m → ex_W G 5 0 0 M_X12_asked 205 [(0, .ref y), (1, .int (nI (a0))), (2, .int (nI (a1))), (3, .int q84), (4, .int (nI (k205)))] [] g85 (SM y D c R pN) := by
                intro n205
                induction n205 with
                | zero =>
                  intro k205 he205 q84 g85 J86 mk205_0
                  obtain rfl : k205 = 300 := by omega
                  refine ex_iload ok_X12_asked (mi 138 rfl) rfl ?_
                  refine ex_sipush ok_X12_asked (mi 139 rfl) ?_
                  refine ex_icmp_ge (tgt := 263) ok_X12_asked (mi 140 rfl) rfl (fun _ => ?_) (fun hn => absurd (by decide) hn)
                  refine ex_iload_n ok_X12_asked (mi 167 rfl) rfl ?_
                  refine ex_if_eq (tgt := 272) ok_X12_asked (mi 168 rfl) rfl (fun h264 => ?_) (fun h264 => ?_)
                  · skip
                    refine ex_vret ok_X12_asked (mi 172 rfl) rfl ?_
                    exact ⟨_, rfl, rfl, (MI_Rw J86 (fun l k => (Or.inl k)))⟩
                  · skip
                    refine ex_aload_n ok_X12_asked (mi 169 rfl) rfl ?_
                    refine ex_iload_n ok_X12_asked (mi 170 rfl) rfl ?_
                    refine sm_V (As := [_]) ok_X12_asked (mi 171 rfl) rfl (s_X12_lead hst J86 (by omega) (Or.inr rfl)) rfl (fk (MI_s J86) 0 rfl) rfl rfl (by decide) (by decide) (Nat.le_of_ble_eq_true rfl) (by decide) SM_no (fun z87 g89 p88 => ?_)
                    obtain ⟨u91, eu91, u91p, J90⟩ := p88
                    cases eu91
                    obtain rfl : z87 = none := u91p
                    refine ex_vret ok_X12_asked (mi 172 rfl) rfl ?_
                    exact ⟨_, rfl, rfl, (MI_Rw J90 (fun l k => (Or.inl k)))⟩
                | succ n205 ih205 =>
                  intro k205 he205 q84 g85 J86 mk205_0
                  have hr205 : k205 < 300 := by omega
                  refine ex_iload ok_X12_asked (mi 138 rfl) rfl ?_
                  refine ex_sipush ok_X12_asked (mi 139 rfl) ?_
                  refine ex_icmp_ge (tgt := 263) ok_X12_asked (mi 140 rfl) rfl (fun hn => absurd hn (nI_ge (b := 300) hr205 (by decide))) (fun _ => ?_)
                  refine ex_aload_n ok_X12_asked (mi 141 rfl) rfl ?_
                  refine ex_getRx ok_X12_asked (mi 142 rfl) rfl rfl (fk (MI_s J86) 0 rfl) (fr (MI_s J86) 8 rfl) (fk (MI_s J86) 9 rfl) (by decide) ?_
                  refine ex_sipush ok_X12_asked (mi 143 rfl) ?_
                  refine ex_iload_n ok_X12_asked (mi 144 rfl) rfl ?_
                  refine ex_imul ok_X12_asked (mi 145 rfl) ?_
                  refine ex_top (w := (nI (300 * a0))) (nI_mulc rfl) ?_
                  refine ex_iload ok_X12_asked (mi 146 rfl) rfl ?_
                  refine ex_iadd ok_X12_asked (mi 147 rfl) ?_
                  refine ex_top (w := (nI (300 * a0 + k205))) (nI_add _ _) ?_
                  refine sm_iald ok_X12_asked (mi 148 rfl) (fk (MI_s J86) 9 rfl) (fn (MI_s J86) 9 rfl) rfl (by omega) (by decide) ?_
                  refine ex_gen (fun w92 => ?_)
                  refine ex_istore ok_X12_asked (mi 149 rfl) ?_
                  refine ex_iload_n ok_X12_asked (mi 150 rfl) rfl ?_
                  refine ex_if_eq (tgt := 255) ok_X12_asked (mi 151 rfl) rfl (fun h229 => ?_) (fun h229 => ?_)
                  · skip
                    refine ex_iconst ok_X12_asked (mi 163 rfl) ?_
                    refine ex_istore_n ok_X12_asked (mi 164 rfl) ?_
                    refine ex_iincx (w := (nI (k205 + 1))) ok_X12_asked (mi 165 rfl) rfl (nI_1 _) ?_
                    refine ex_goto (tgt := 205) ok_X12_asked (mi 166 rfl) rfl ?_
                    exact ex_ls (ls' := [(0, .ref y), (1, .int (nI (a0))), (2, .int (nI (a1))), (3, .int (nI 0)), (4, .int (nI (k205 + 1)))]) ⟨rfl, rfl, rfl, rfl, rfl, trivial⟩ (ih205 (k205 + 1) (by omega) _ g85 J86 mk205_0)
                  · skip
                    refine ex_iload ok_X12_asked (mi 152 rfl) rfl ?_
                    refine ex_if_eq (tgt := 251) ok_X12_asked (mi 153 rfl) rfl (fun h234 => ?_) (fun h234 => ?_)
                    · skip
                      refine ex_iconst ok_X12_asked (mi 161 rfl) ?_
                      refine ex_goto (tgt := 256) ok_X12_asked (mi 162 rfl) rfl ?_
                      refine ex_istore_n ok_X12_asked (mi 164 rfl) ?_
                      refine ex_iincx (w := (nI (k205 + 1))) ok_X12_asked (mi 165 rfl) rfl (nI_1 _) ?_
                      refine ex_goto (tgt := 205) ok_X12_asked (mi 166 rfl) rfl ?_
                      exact ex_ls (ls' := [(0, .ref y), (1, .int (nI (a0))), (2, .int (nI (a1))), (3, .int (nI 1)), (4, .int (nI (k205 + 1)))]) ⟨rfl, rfl, rfl, rfl, rfl, trivial⟩ (ih205 (k205 + 1) (by omega) _ g85 J86 mk205_0)
                    · skip
                      refine ex_aload_n ok_X12_asked (mi 154 rfl) rfl ?_
                      refine ex_getRx ok_X12_asked (mi 155 rfl) rfl rfl (fk (MI_s J86) 0 rfl) (fr (MI_s J86) 9 rfl) (fk (MI_s J86) 10 rfl) (by decide) ?_
                      refine ex_iload_n ok_X12_asked (mi 156 rfl) rfl ?_
                      refine sm_iald ok_X12_asked (mi 157 rfl) (fk (MI_s J86) 10 rfl) (fn (MI_s J86) 10 rfl) rfl (by omega) (by decide) ?_
                      refine ex_gen (fun w93 => ?_)
                      refine ex_iload ok_X12_asked (mi 158 rfl) rfl ?_
                      refine sf_Sp (As := [_, _]) ok_X12_asked (mi 159 rfl) rfl (s_X12_isMajority hst (MI_s J86)) rfl rfl rfl (by decide) (Nat.le_of_ble_eq_true rfl) (by decide) (fun z94 p95 => ?_)
                      obtain ⟨v98, rfl, hbv98⟩ := p95
                      refine ex_if_eq (tgt := 255) ok_X12_asked (mi 160 rfl) rfl (fun h248 => ?_) (fun h248 => ?_)
                      · skip
                        refine ex_iconst ok_X12_asked (mi 163 rfl) ?_
                        refine ex_istore_n ok_X12_asked (mi 164 rfl) ?_
                        refine ex_iincx (w := (nI (k205 + 1))) ok_X12_asked (mi 165 rfl) rfl (nI_1 _) ?_
                        refine ex_goto (tgt := 205) ok_X12_asked (mi 166 rfl) rfl ?_
                        exact ex_ls (ls' := [(0, .ref y), (1, .int (nI (a0))), (2, .int (nI (a1))), (3, .int (nI 0)), (4, .int (nI (k205 + 1)))]) ⟨rfl, rfl, rfl, rfl, rfl, trivial⟩ (ih205 (k205 + 1) (by omega) _ g85 J86 mk205_0)
                      · skip
                        refine ex_iconst ok_X12_asked (mi 161 rfl) ?_
                        refine ex_goto (tgt := 256) ok_X12_asked (mi 162 rfl) rfl ?_
                        refine ex_istore_n ok_X12_asked (mi 164 rfl) ?_
                        refine ex_iincx (w := (nI (k205 + 1))) ok_X12_asked (mi 165 rfl) rfl (nI_1 _) ?_
                        refine ex_goto (tgt := 205) ok_X12_asked (mi 166 rfl) rfl ?_
                        exact ex_ls (ls' := [(0, .ref y), (1, .int (nI (a0))), (2, .int (nI (a1))), (3, .int (nI 1)), (4, .int (nI (k205 + 1)))]) ⟨rfl, rfl, rfl, rfl, rfl, trivial⟩ (ih205 (k205 + 1) (by omega) _ g85 J86 mk205_0)
              exact ex_ls (ls' := [(0, .ref y), (1, .int (nI (a0))), (2, .int (nI (a1))), (3, .int (nI 1)), (4, .int (nI 0))]) ⟨rfl, rfl, rfl, rfl, rfl, trivial⟩ (lp205 (300 - 0) (0) (by omega) _ g67 J68 mk91_0)
            · skip
              have l98 : k91 < m := Nat.lt_of_not_le (fun q => h98 (nI_le q (by omega)))
              refine ex_aload_n ok_X12_asked (mi 69 rfl) rfl ?_
              refine ex_getRx ok_X12_asked (mi 70 rfl) rfl rfl (fk (MI_s J68) 0 rfl) (fr (MI_s J68) 55 rfl) (fk (MI_s J68) 56 rfl) (by decide) ?_
              refine ex_sipush ok_X12_asked (mi 71 rfl) ?_
              refine ex_iload_n ok_X12_asked (mi 72 rfl) rfl ?_
              refine ex_imul ok_X12_asked (mi 73 rfl) ?_
              refine ex_top (w := (nI (600 * a1))) (nI_mulc rfl) ?_
              refine ex_iconst ok_X12_asked (mi 74 rfl) ?_
              refine ex_iload_n ok_X12_asked (mi 75 rfl) rfl ?_
              refine ex_imul ok_X12_asked (mi 76 rfl) ?_
              refine ex_top (w := (nI (3 * k91))) (nI_mulc rfl) ?_
              refine ex_iadd ok_X12_asked (mi 77 rfl) ?_
              refine ex_top (w := (nI (600 * a1 + 3 * k91))) (nI_add _ _) ?_
              refine sm_iald ok_X12_asked (mi 78 rfl) (fk (MI_s J68) 56 rfl) (fn (MI_s J68) 56 rfl) rfl (by omega) (by decide) ?_
              obtain ⟨v99, hv99, ev99⟩ := vp_in_of (n := 16) (mk91_0.2.2.2.2.2.2.2.2.2.2 rfl k91 (by omega)) (by decide)
              refine ex_top (w := nI v99) ev99 ?_
              refine ex_istore ok_X12_asked (mi 79 rfl) ?_
              refine ex_aload_n ok_X12_asked (mi 80 rfl) rfl ?_
              refine ex_getRx ok_X12_asked (mi 81 rfl) rfl rfl (fk (MI_s J68) 0 rfl) (fr (MI_s J68) 55 rfl) (fk (MI_s J68) 56 rfl) (by decide) ?_
              refine ex_sipush ok_X12_asked (mi 82 rfl) ?_
              refine ex_iload_n ok_X12_asked (mi 83 rfl) rfl ?_
              refine ex_imul ok_X12_asked (mi 84 rfl) ?_
              refine ex_top (w := (nI (600 * a1))) (nI_mulc rfl) ?_
              refine ex_iconst ok_X12_asked (mi 85 rfl) ?_
              refine ex_iload_n ok_X12_asked (mi 86 rfl) rfl ?_
              refine ex_imul ok_X12_asked (mi 87 rfl) ?_
              refine ex_top (w := (nI (3 * k91))) (nI_mulc rfl) ?_
              refine ex_iadd ok_X12_asked (mi 88 rfl) ?_
              refine ex_top (w := (nI (600 * a1 + 3 * k91))) (nI_add _ _) ?_
              refine ex_iconst ok_X12_asked (mi 89 rfl) ?_
              refine ex_iadd ok_X12_asked (mi 90 rfl) ?_
              refine ex_top (w := (nI (600 * a1 + 3 * k91 + 1))) (nI_add _ 1) ?_
              refine sm_iald ok_X12_asked (mi 91 rfl) (fk (MI_s J68) 56 rfl) (fn (MI_s J68) 56 rfl) rfl (by omega) (by decide) ?_
              refine ex_gen (fun w100 => ?_)
              refine ex_istore ok_X12_asked (mi 92 rfl) ?_
              refine ex_iload ok_X12_asked (mi 93 rfl) rfl ?_
              refine ex_aload_n ok_X12_asked (mi 94 rfl) rfl ?_
              refine ex_getRx ok_X12_asked (mi 95 rfl) rfl rfl (fk (MI_s J68) 0 rfl) (fr (MI_s J68) 11 rfl) (fk (MI_s J68) 12 rfl) (by decide) ?_
              refine ex_bipush ok_X12_asked (mi 96 rfl) ?_
              refine ex_iload_n ok_X12_asked (mi 97 rfl) rfl ?_
              refine ex_imul ok_X12_asked (mi 98 rfl) ?_
              refine ex_top (w := (nI (16 * a0))) (nI_mulc rfl) ?_
              refine ex_iload ok_X12_asked (mi 99 rfl) rfl ?_
              refine ex_iadd ok_X12_asked (mi 100 rfl) ?_
              refine ex_top (w := (nI (16 * a0 + v99))) (nI_add _ _) ?_
              refine sm_iald ok_X12_asked (mi 101 rfl) (fk (MI_s J68) 12 rfl) (fn (MI_s J68) 12 rfl) rfl (by omega) (by decide) ?_
              refine ex_gen (fun w101 => ?_)
              refine ex_icmp_le (tgt := 194) ok_X12_asked (mi 102 rfl) rfl (fun h149 => ?_) (fun h149 => ?_)
              · skip
                refine ex_iincx (w := (nI (k91 + 1))) ok_X12_asked (mi 132 rfl) rfl (nI_1 _) ?_
                refine ex_goto (tgt := 91) ok_X12_asked (mi 133 rfl) rfl ?_
                exact ex_ls (ls' := [(0, .ref y), (1, .int (nI (a0))), (2, .int (nI (a1))), (3, .int (nI (k91 + 1)))]) ⟨rfl, rfl, rfl, rfl, trivial⟩ (ih91 (k91 + 1) (by omega) g67 J68 mk91_0)
              · skip
                refine ex_aload_n ok_X12_asked (mi 103 rfl) rfl ?_
                refine ex_getRx ok_X12_asked (mi 104 rfl) rfl rfl (fk (MI_s J68) 0 rfl) (fr (MI_s J68) 11 rfl) (fk (MI_s J68) 12 rfl) (by decide) ?_
                refine ex_bipush ok_X12_asked (mi 105 rfl) ?_
                refine ex_iload_n ok_X12_asked (mi 106 rfl) rfl ?_
                refine ex_imul ok_X12_asked (mi 107 rfl) ?_
                refine ex_top (w := (nI (16 * a0))) (nI_mulc rfl) ?_
                refine ex_iload ok_X12_asked (mi 108 rfl) rfl ?_
                refine ex_iadd ok_X12_asked (mi 109 rfl) ?_
                refine ex_top (w := (nI (16 * a0 + v99))) (nI_add _ _) ?_
                refine ex_iload ok_X12_asked (mi 110 rfl) rfl ?_
                refine mf_A J68 ok_X12_asked (mi 111 rfl) (fk (MI_s J68) 12 rfl) (fn (MI_s J68) 12 rfl) rfl (by omega) (by decide) (by decide) (by decide) (by decide) (fun g102 J103 K104 => ?_)
                have mk105 := KK_mk K104 mk91_0
                refine ex_aload_n ok_X12_asked (mi 112 rfl) rfl ?_
                refine ex_getRx ok_X12_asked (mi 113 rfl) rfl rfl (fk (MI_s J103) 0 rfl) (fr (MI_s J103) 12 rfl) (fk (MI_s J103) 13 rfl) (by decide) ?_
                refine ex_bipush ok_X12_asked (mi 114 rfl) ?_
                refine ex_iload_n ok_X12_asked (mi 115 rfl) rfl ?_
                refine ex_imul ok_X12_asked (mi 116 rfl) ?_
                refine ex_top (w := (nI (16 * a0))) (nI_mulc rfl) ?_
                refine ex_iload ok_X12_asked (mi 117 rfl) rfl ?_
                refine ex_iadd ok_X12_asked (mi 118 rfl) ?_
                refine ex_top (w := (nI (16 * a0 + v99))) (nI_add _ _) ?_
                refine ex_aload_n ok_X12_asked (mi 119 rfl) rfl ?_
                refine ex_getRx ok_X12_asked (mi 120 rfl) rfl rfl (fk (MI_s J103) 0 rfl) (fr (MI_s J103) 55 rfl) (fk (MI_s J103) 56 rfl) (by decide) ?_
                refine ex_sipush ok_X12_asked (mi 121 rfl) ?_
                refine ex_iload_n ok_X12_asked (mi 122 rfl) rfl ?_
                refine ex_imul ok_X12_asked (mi 123 rfl) ?_
                refine ex_top (w := (nI (600 * a1))) (nI_mulc rfl) ?_
                refine ex_iconst ok_X12_asked (mi 124 rfl) ?_
                refine ex_iload_n ok_X12_asked (mi 125 rfl) rfl ?_
                refine ex_imul ok_X12_asked (mi 126 rfl) ?_
                refine ex_top (w := (nI (3 * k91))) (nI_mulc rfl) ?_
                refine ex_iadd ok_X12_asked (mi 127 rfl) ?_
                refine ex_top (w := (nI (600 * a1 + 3 * k91))) (nI_add _ _) ?_
                refine ex_iconst ok_X12_asked (mi 128 rfl) ?_
                refine ex_iadd ok_X12_asked (mi 129 rfl) ?_
                refine ex_top (w := (nI (600 * a1 + 3 * k91 + 2))) (nI_add _ 2) ?_
                refine sm_iald ok_X12_asked (mi 130 rfl) (fk (MI_s J103) 56 rfl) (fn (MI_s J103) 56 rfl) rfl (by omega) (by decide) ?_
                refine ex_gen (fun w106 => ?_)
                refine mf_A J103 ok_X12_asked (mi 131 rfl) (fk (MI_s J103) 13 rfl) (fn (MI_s J103) 13 rfl) rfl (by omega) (by decide) (by decide) (by decide) (by decide) (fun g107 J108 K109 => ?_)
                have mk110 := KK_mk K109 mk105
                refine ex_iincx (w := (nI (k91 + 1))) ok_X12_asked (mi 132 rfl) rfl (nI_1 _) ?_
                refine ex_goto (tgt := 91) ok_X12_asked (mi 133 rfl) rfl ?_
                exact ex_ls (ls' := [(0, .ref y), (1, .int (nI (a0))), (2, .int (nI (a1))), (3, .int (nI (k91 + 1)))]) ⟨rfl, rfl, rfl, rfl, trivial⟩ (ih91 (k91 + 1) (by omega) g107 J108 mk110)
        exact ex_ls (ls' := [(0, .ref y), (1, .int (nI (a0))), (2, .int (nI (a1))), (3, .int (nI 0))]) ⟨rfl, rfl, rfl, rfl, trivial⟩ (lp91 (16 - 0) (0) (by omega) g63 J64 mk66)
    · skip
      refine ex_vret ok_X12_asked (mi 17 rfl) rfl ?_
      exact ⟨_, rfl, rfl, (MI_Rw J1 (fun l k => (Or.inl k)))⟩
theorem s_X12_pick {G : GE} (hst : (ge_l G).stackTraces = false) {y c : Nat} {D : UT} {R : Nat → Prop} {g : GT} (I : MI y D c R g) {a0 : Nat} (ha0 : a0 < 3) : ex_M G 3 0 0 my_X12_pick [.ref y, .int (nI (a0))] g (SM y D c R pN) := by
  refine ex_M_of ok_X12_pick cw_X12_pick rfl hst (Nat.le_of_ble_eq_true rfl) ?_
  refine ex_aload_n ok_X12_pick (mi 0 rfl) rfl ?_
  refine ex_getRx ok_X12_pick (mi 1 rfl) rfl rfl (fk (MI_s I) 0 rfl) (fr (MI_s I) 25 rfl) (fk (MI_s I) 26 rfl) (by decide) ?_
  refine ex_iload_n ok_X12_pick (mi 2 rfl) rfl ?_
  refine ex_iconst ok_X12_pick (mi 3 rfl) ?_
  refine mf_A I ok_X12_pick (mi 4 rfl) (fk (MI_s I) 26 rfl) (fn (MI_s I) 26 rfl) rfl (by omega) (by decide) (by decide) (by decide) (by decide) (fun g1 J2 K3 => ?_)
  refine ex_aload_n ok_X12_pick (mi 5 rfl) rfl ?_
  refine ex_getRx ok_X12_pick (mi 6 rfl) rfl rfl (fk (MI_s J2) 0 rfl) (fr (MI_s J2) 28 rfl) (fk (MI_s J2) 29 rfl) (by decide) ?_
  refine ex_iload_n ok_X12_pick (mi 7 rfl) rfl ?_
  refine ex_iconst ok_X12_pick (mi 8 rfl) ?_
  refine mf_A J2 ok_X12_pick (mi 9 rfl) (fk (MI_s J2) 29 rfl) (fn (MI_s J2) 29 rfl) rfl (by omega) (by decide) (by decide) (by decide) (by decide) (fun g4 J5 K6 => ?_)
  refine ex_aload_n ok_X12_pick (mi 10 rfl) rfl ?_
  refine ex_bipush ok_X12_pick (mi 11 rfl) ?_
  refine ex_iload_n ok_X12_pick (mi 12 rfl) rfl ?_
  refine ex_aload_n ok_X12_pick (mi 13 rfl) rfl ?_
  refine ex_getRx ok_X12_pick (mi 14 rfl) rfl rfl (fk (MI_s J5) 0 rfl) (fr (MI_s J5) 5 rfl) (fk (MI_s J5) 6 rfl) (by decide) ?_
  refine ex_iload_n ok_X12_pick (mi 15 rfl) rfl ?_
  refine sm_iald ok_X12_pick (mi 16 rfl) (fk (MI_s J5) 6 rfl) (fn (MI_s J5) 6 rfl) rfl (by omega) (by decide) ?_
  obtain ⟨v7, hv7, ev7⟩ := vp_in_of (n := 512) (MI_bd J5 0 rfl (i := a0) (by omega)) (by decide)
  refine ex_top (w := nI v7) ev7 ?_
  refine ex_aload_n ok_X12_pick (mi 17 rfl) rfl ?_
  refine ex_getRx ok_X12_pick (mi 18 rfl) rfl rfl (fk (MI_s J5) 0 rfl) (fr (MI_s J5) 4 rfl) (fk (MI_s J5) 5 rfl) (by decide) ?_
  refine ex_iload_n ok_X12_pick (mi 19 rfl) rfl ?_
  refine sm_iald ok_X12_pick (mi 20 rfl) (fk (MI_s J5) 5 rfl) (fn (MI_s J5) 5 rfl) rfl (by omega) (by decide) ?_
  refine ex_gen (fun w8 => ?_)
  refine ex_aload_n ok_X12_pick (mi 21 rfl) rfl ?_
  refine ex_getRx ok_X12_pick (mi 22 rfl) rfl rfl (fk (MI_s J5) 0 rfl) (fr (MI_s J5) 27 rfl) (fk (MI_s J5) 28 rfl) (by decide) ?_
  refine ex_iload_n ok_X12_pick (mi 23 rfl) rfl ?_
  refine sm_iald ok_X12_pick (mi 24 rfl) (fk (MI_s J5) 28 rfl) (fn (MI_s J5) 28 rfl) rfl (by omega) (by decide) ?_
  refine ex_gen (fun w9 => ?_)
  refine ex_aload_n ok_X12_pick (mi 25 rfl) rfl ?_
  refine ex_getRx ok_X12_pick (mi 26 rfl) rfl rfl (fk (MI_s J5) 0 rfl) (fr (MI_s J5) 26 rfl) (fk (MI_s J5) 27 rfl) (by decide) ?_
  refine ex_iload_n ok_X12_pick (mi 27 rfl) rfl ?_
  refine sm_iald ok_X12_pick (mi 28 rfl) (fk (MI_s J5) 27 rfl) (fn (MI_s J5) 27 rfl) rfl (by omega) (by decide) ?_
  obtain ⟨v10, hv10, ev10⟩ := vp_in_of (n := 512) (MI_bd J5 6 rfl (i := a0) (by omega)) (by decide)
  refine ex_top (w := nI v10) ev10 ?_
  refine sm_V (As := [_, _, _, _, _, _]) ok_X12_pick (mi 29 rfl) rfl (s_X12_layAll hst J5 (κ := 20) (by decide) (Or.inr (vp_in_nI (N := 3) (by omega) (by decide))) (TO9 rfl (vp_in_nI (N := 512) (by omega) (by decide))) (Or.inl rfl) (Or.inl rfl) (Or.inr (vp_in_nI (N := 512) (by omega) (by decide)))) rfl (fk (MI_s J5) 0 rfl) rfl rfl (by decide) (by decide) (Nat.le_of_ble_eq_true rfl) (by decide) SM_no (fun z11 g13 p12 => ?_)
  obtain ⟨u15, eu15, u15p, J14⟩ := p12
  cases eu15
  obtain ⟨v16, rfl⟩ := u15p
  refine ex_istore_n ok_X12_pick (mi 30 rfl) ?_
  refine ex_vret ok_X12_pick (mi 31 rfl) rfl ?_
  exact ⟨_, rfl, rfl, J14⟩
theorem s_X12_seeded {G : GE} (hst : (ge_l G).stackTraces = false) {y c : Nat} {D : UT} {R : Nat → Prop} {g : GT} (I : MI y D c R g) {a0 : Nat} (ha0 : a0 < 3) {a1 : Nat} (ha1 : a1 < 402) {m : Nat} (hmk : MK y g a1 19 m) : ex_M G 4 0 0 my_X12_seeded [.ref y, .int (nI (a0)), .int (nI (a1))] g (SM y D c R pN) := by
  refine ex_M_of ok_X12_seeded cw_X12_seeded rfl hst (Nat.le_of_ble_eq_true rfl) ?_
  have hm3 : m < 301 := hmk.2.2.2.2.2.2.2.1
  refine ex_aload_n ok_X12_seeded (mi 0 rfl) rfl ?_
  refine ex_getRx ok_X12_seeded (mi 1 rfl) rfl rfl (fk (MI_s I) 0 rfl) (fr (MI_s I) 25 rfl) (fk (MI_s I) 26 rfl) (by decide) ?_
  refine ex_iload_n ok_X12_seeded (mi 2 rfl) rfl ?_
  refine sm_iald ok_X12_seeded (mi 3 rfl) (fk (MI_s I) 26 rfl) (fn (MI_s I) 26 rfl) rfl (by omega) (by decide) ?_
  refine ex_gen (fun w1 => ?_)
  refine ex_iconst ok_X12_seeded (mi 4 rfl) ?_
  refine ex_icmp_ne (tgt := 29) ok_X12_seeded (mi 5 rfl) rfl (fun h7 => ?_) (fun h7 => ?_)
  · skip
    refine ex_vret ok_X12_seeded (mi 19 rfl) rfl ?_
    exact ⟨_, rfl, rfl, I⟩
  · skip
    refine ex_aload_n ok_X12_seeded (mi 6 rfl) rfl ?_
    refine ex_getRx ok_X12_seeded (mi 7 rfl) rfl rfl (fk (MI_s I) 0 rfl) (fr (MI_s I) 52 rfl) (fk (MI_s I) 53 rfl) (by decide) ?_
    refine ex_iconst ok_X12_seeded (mi 8 rfl) ?_
    refine ex_iload_n ok_X12_seeded (mi 9 rfl) rfl ?_
    refine ex_imul ok_X12_seeded (mi 10 rfl) ?_
    refine ex_top (w := (nI (3 * a1))) (nI_mulc rfl) ?_
    refine sm_iald ok_X12_seeded (mi 11 rfl) (fk (MI_s I) 53 rfl) (fn (MI_s I) 53 rfl) rfl (by omega) (by decide) ?_
    refine ex_gen (fun w2 => ?_)
    refine ex_aload_n ok_X12_seeded (mi 12 rfl) rfl ?_
    refine ex_getRx ok_X12_seeded (mi 13 rfl) rfl rfl (fk (MI_s I) 0 rfl) (fr (MI_s I) 4 rfl) (fk (MI_s I) 5 rfl) (by decide) ?_
    refine ex_iload_n ok_X12_seeded (mi 14 rfl) rfl ?_
    refine sm_iald ok_X12_seeded (mi 15 rfl) (fk (MI_s I) 5 rfl) (fn (MI_s I) 5 rfl) rfl (by omega) (by decide) ?_
    refine ex_gen (fun w3 => ?_)
    refine ex_iconst ok_X12_seeded (mi 16 rfl) ?_
    refine ex_iadd ok_X12_seeded (mi 17 rfl) ?_
    refine ex_gen (fun w4 => ?_)
    refine ex_icmp_eq (tgt := 30) ok_X12_seeded (mi 18 rfl) rfl (fun h26 => ?_) (fun h26 => ?_)
    · skip
      refine ex_aload_n ok_X12_seeded (mi 20 rfl) rfl ?_
      refine ex_getRx ok_X12_seeded (mi 21 rfl) rfl rfl (fk (MI_s I) 0 rfl) (fr (MI_s I) 28 rfl) (fk (MI_s I) 29 rfl) (by decide) ?_
      refine ex_iload_n ok_X12_seeded (mi 22 rfl) rfl ?_
      refine ex_dup2 ok_X12_seeded (mi 23 rfl) rfl rfl ?_
      refine sm_iald ok_X12_seeded (mi 24 rfl) (fk (MI_s I) 29 rfl) (fn (MI_s I) 29 rfl) rfl (by omega) (by decide) ?_
      refine ex_gen (fun w5 => ?_)
      refine ex_iconst ok_X12_seeded (mi 25 rfl) ?_
      refine ex_aload_n ok_X12_seeded (mi 26 rfl) rfl ?_
      refine ex_getRx ok_X12_seeded (mi 27 rfl) rfl rfl (fk (MI_s I) 0 rfl) (fr (MI_s I) 50 rfl) (fk (MI_s I) 51 rfl) (by decide) ?_
      refine ex_iload_n ok_X12_seeded (mi 28 rfl) rfl ?_
      refine sm_iald ok_X12_seeded (mi 29 rfl) (fk (MI_s I) 51 rfl) (fn (MI_s I) 51 rfl) rfl (by omega) (by decide) ?_
      refine ex_gen (fun w6 => ?_)
      refine ex_ishl ok_X12_seeded (mi 30 rfl) ?_
      refine ex_gen (fun w7 => ?_)
      refine ex_ior ok_X12_seeded (mi 31 rfl) ?_
      refine ex_gen (fun w8 => ?_)
      refine mf_A I ok_X12_seeded (mi 32 rfl) (fk (MI_s I) 29 rfl) (fn (MI_s I) 29 rfl) rfl (by omega) (by decide) (by decide) (by decide) (by decide) (fun g9 J10 K11 => ?_)
      have mk12 := KK_mk K11 hmk
      refine ex_aload_n ok_X12_seeded (mi 33 rfl) rfl ?_
      refine ex_getRx ok_X12_seeded (mi 34 rfl) rfl rfl (fk (MI_s J10) 0 rfl) (fr (MI_s J10) 26 rfl) (fk (MI_s J10) 27 rfl) (by decide) ?_
      refine ex_iload_n ok_X12_seeded (mi 35 rfl) rfl ?_
      refine sm_iald ok_X12_seeded (mi 36 rfl) (fk (MI_s J10) 27 rfl) (fn (MI_s J10) 27 rfl) rfl (by omega) (by decide) ?_
      obtain ⟨v13, hv13, ev13⟩ := vp_in_of (n := 512) (MI_bd J10 6 rfl (i := a0) (by omega)) (by decide)
      refine ex_top (w := nI v13) ev13 ?_
      refine ex_aload_n ok_X12_seeded (mi 37 rfl) rfl ?_
      refine ex_getRx ok_X12_seeded (mi 38 rfl) rfl rfl (fk (MI_s J10) 0 rfl) (fr (MI_s J10) 28 rfl) (fk (MI_s J10) 29 rfl) (by decide) ?_
      refine ex_iload_n ok_X12_seeded (mi 39 rfl) rfl ?_
      refine sm_iald ok_X12_seeded (mi 40 rfl) (fk (MI_s J10) 29 rfl) (fn (MI_s J10) 29 rfl) rfl (by omega) (by decide) ?_
      refine ex_gen (fun w14 => ?_)
      refine ex_iconst ok_X12_seeded (mi 41 rfl) ?_
      refine ex_ixor ok_X12_seeded (mi 42 rfl) ?_
      refine ex_gen (fun w15 => ?_)
      refine ex_iand ok_X12_seeded (mi 43 rfl) ?_
      obtain ⟨v16, hv16, ev16⟩ := vp_in_of (n := 512) (and_vp (vp_in_nI (N := 512) (by omega) (by decide)) (by decide)) (by decide)
      refine ex_top (w := nI v16) ev16 ?_
      refine ex_if_ne (tgt := 70) ok_X12_seeded (mi 44 rfl) rfl (fun h62 => ?_) (fun h62 => ?_)
      · skip
        have n62 : v16 ≠ 0 := fun e => h62 (by rw [e]; rfl)
        refine ex_vret ok_X12_seeded (mi 48 rfl) rfl ?_
        exact ⟨_, rfl, rfl, J10⟩
      · skip
        refine ex_aload_n ok_X12_seeded (mi 45 rfl) rfl ?_
        refine ex_iload_n ok_X12_seeded (mi 46 rfl) rfl ?_
        refine sm_V (As := [_]) ok_X12_seeded (mi 47 rfl) rfl (s_X12_pick hst J10 (by omega)) rfl (fk (MI_s J10) 0 rfl) rfl rfl (by decide) (by decide) (Nat.le_of_ble_eq_true rfl) (by decide) SM_no (fun z17 g19 p18 => ?_)
        obtain ⟨u21, eu21, u21p, J20⟩ := p18
        cases eu21
        obtain rfl : z17 = none := u21p
        refine ex_vret ok_X12_seeded (mi 48 rfl) rfl ?_
        exact ⟨_, rfl, rfl, J20⟩
    · skip
      refine ex_vret ok_X12_seeded (mi 19 rfl) rfl ?_
      exact ⟨_, rfl, rfl, I⟩
theorem s_X12_picked {G : GE} (hst : (ge_l G).stackTraces = false) {y c : Nat} {D : UT} {R : Nat → Prop} {g : GT} (I : MI y D c R g) {a0 : Nat} (ha0 : a0 < 3) {a1 : Nat} (ha1 : a1 < 402) {m : Nat} (hmk : MK y g a1 21 m) : ex_M G 3 0 0 my_X12_picked [.ref y, .int (nI (a0)), .int (nI (a1))] g (SM y D c R pN) := by
  refine ex_M_of ok_X12_picked cw_X12_picked rfl hst (Nat.le_of_ble_eq_true rfl) ?_
  have hm3 : m < 301 := hmk.2.2.2.2.2.2.2.1
  refine ex_aload_n ok_X12_picked (mi 0 rfl) rfl ?_
  refine ex_getRx ok_X12_picked (mi 1 rfl) rfl rfl (fk (MI_s I) 0 rfl) (fr (MI_s I) 25 rfl) (fk (MI_s I) 26 rfl) (by decide) ?_
  refine ex_iload_n ok_X12_picked (mi 2 rfl) rfl ?_
  refine sm_iald ok_X12_picked (mi 3 rfl) (fk (MI_s I) 26 rfl) (fn (MI_s I) 26 rfl) rfl (by omega) (by decide) ?_
  refine ex_gen (fun w1 => ?_)
  refine ex_iconst ok_X12_picked (mi 4 rfl) ?_
  refine ex_icmp_ne (tgt := 46) ok_X12_picked (mi 5 rfl) rfl (fun h7 => ?_) (fun h7 => ?_)
  · skip
    refine ex_vret ok_X12_picked (mi 30 rfl) rfl ?_
    exact ⟨_, rfl, rfl, I⟩
  · skip
    refine ex_aload_n ok_X12_picked (mi 6 rfl) rfl ?_
    refine ex_getRx ok_X12_picked (mi 7 rfl) rfl rfl (fk (MI_s I) 0 rfl) (fr (MI_s I) 52 rfl) (fk (MI_s I) 53 rfl) (by decide) ?_
    refine ex_iconst ok_X12_picked (mi 8 rfl) ?_
    refine ex_iload_n ok_X12_picked (mi 9 rfl) rfl ?_
    refine ex_imul ok_X12_picked (mi 10 rfl) ?_
    refine ex_top (w := (nI (3 * a1))) (nI_mulc rfl) ?_
    refine sm_iald ok_X12_picked (mi 11 rfl) (fk (MI_s I) 53 rfl) (fn (MI_s I) 53 rfl) rfl (by omega) (by decide) ?_
    refine ex_gen (fun w2 => ?_)
    refine ex_aload_n ok_X12_picked (mi 12 rfl) rfl ?_
    refine ex_getRx ok_X12_picked (mi 13 rfl) rfl rfl (fk (MI_s I) 0 rfl) (fr (MI_s I) 4 rfl) (fk (MI_s I) 5 rfl) (by decide) ?_
    refine ex_iload_n ok_X12_picked (mi 14 rfl) rfl ?_
    refine sm_iald ok_X12_picked (mi 15 rfl) (fk (MI_s I) 5 rfl) (fn (MI_s I) 5 rfl) rfl (by omega) (by decide) ?_
    refine ex_gen (fun w3 => ?_)
    refine ex_icmp_ne (tgt := 46) ok_X12_picked (mi 16 rfl) rfl (fun h24 => ?_) (fun h24 => ?_)
    · skip
      refine ex_vret ok_X12_picked (mi 30 rfl) rfl ?_
      exact ⟨_, rfl, rfl, I⟩
    · skip
      refine ex_aload_n ok_X12_picked (mi 17 rfl) rfl ?_
      refine ex_getRx ok_X12_picked (mi 18 rfl) rfl rfl (fk (MI_s I) 0 rfl) (fr (MI_s I) 52 rfl) (fk (MI_s I) 53 rfl) (by decide) ?_
      refine ex_iconst ok_X12_picked (mi 19 rfl) ?_
      refine ex_iload_n ok_X12_picked (mi 20 rfl) rfl ?_
      refine ex_imul ok_X12_picked (mi 21 rfl) ?_
      refine ex_top (w := (nI (3 * a1))) (nI_mulc rfl) ?_
      refine ex_iconst ok_X12_picked (mi 22 rfl) ?_
      refine ex_iadd ok_X12_picked (mi 23 rfl) ?_
      refine ex_top (w := (nI (3 * a1 + 1))) (nI_add _ 1) ?_
      refine sm_iald ok_X12_picked (mi 24 rfl) (fk (MI_s I) 53 rfl) (fn (MI_s I) 53 rfl) rfl (by omega) (by decide) ?_
      refine ex_gen (fun w4 => ?_)
      refine ex_aload_n ok_X12_picked (mi 25 rfl) rfl ?_
      refine ex_getRx ok_X12_picked (mi 26 rfl) rfl rfl (fk (MI_s I) 0 rfl) (fr (MI_s I) 27 rfl) (fk (MI_s I) 28 rfl) (by decide) ?_
      refine ex_iload_n ok_X12_picked (mi 27 rfl) rfl ?_
      refine sm_iald ok_X12_picked (mi 28 rfl) (fk (MI_s I) 28 rfl) (fn (MI_s I) 28 rfl) rfl (by omega) (by decide) ?_
      refine ex_gen (fun w5 => ?_)
      refine ex_icmp_eq (tgt := 47) ok_X12_picked (mi 29 rfl) rfl (fun h43 => ?_) (fun h43 => ?_)
      · skip
        refine ex_aload_n ok_X12_picked (mi 31 rfl) rfl ?_
        refine ex_getRx ok_X12_picked (mi 32 rfl) rfl rfl (fk (MI_s I) 0 rfl) (fr (MI_s I) 28 rfl) (fk (MI_s I) 29 rfl) (by decide) ?_
        refine ex_iload_n ok_X12_picked (mi 33 rfl) rfl ?_
        refine ex_dup2 ok_X12_picked (mi 34 rfl) rfl rfl ?_
        refine sm_iald ok_X12_picked (mi 35 rfl) (fk (MI_s I) 29 rfl) (fn (MI_s I) 29 rfl) rfl (by omega) (by decide) ?_
        refine ex_gen (fun w6 => ?_)
        refine ex_iconst ok_X12_picked (mi 36 rfl) ?_
        refine ex_aload_n ok_X12_picked (mi 37 rfl) rfl ?_
        refine ex_getRx ok_X12_picked (mi 38 rfl) rfl rfl (fk (MI_s I) 0 rfl) (fr (MI_s I) 50 rfl) (fk (MI_s I) 51 rfl) (by decide) ?_
        refine ex_iload_n ok_X12_picked (mi 39 rfl) rfl ?_
        refine sm_iald ok_X12_picked (mi 40 rfl) (fk (MI_s I) 51 rfl) (fn (MI_s I) 51 rfl) rfl (by omega) (by decide) ?_
        refine ex_gen (fun w7 => ?_)
        refine ex_ishl ok_X12_picked (mi 41 rfl) ?_
        refine ex_gen (fun w8 => ?_)
        refine ex_ior ok_X12_picked (mi 42 rfl) ?_
        refine ex_gen (fun w9 => ?_)
        refine mf_A I ok_X12_picked (mi 43 rfl) (fk (MI_s I) 29 rfl) (fn (MI_s I) 29 rfl) rfl (by omega) (by decide) (by decide) (by decide) (by decide) (fun g10 J11 K12 => ?_)
        have mk13 := KK_mk K12 hmk
        refine ex_aload_n ok_X12_picked (mi 44 rfl) rfl ?_
        refine ex_getRx ok_X12_picked (mi 45 rfl) rfl rfl (fk (MI_s J11) 0 rfl) (fr (MI_s J11) 28 rfl) (fk (MI_s J11) 29 rfl) (by decide) ?_
        refine ex_iload_n ok_X12_picked (mi 46 rfl) rfl ?_
        refine sm_iald ok_X12_picked (mi 47 rfl) (fk (MI_s J11) 29 rfl) (fn (MI_s J11) 29 rfl) rfl (by omega) (by decide) ?_
        refine ex_gen (fun w14 => ?_)
        refine sf_Sp (As := [_]) ok_X12_picked (mi 48 rfl) rfl (s_X12_bits hst (MI_s J11)) rfl rfl rfl (by decide) (Nat.le_of_ble_eq_true rfl) (by decide) (fun z15 p16 => ?_)
        obtain ⟨v19, rfl⟩ := p16
        refine ex_iconst ok_X12_picked (mi 49 rfl) ?_
        refine ex_icmp_lt (tgt := 159) ok_X12_picked (mi 50 rfl) rfl (fun h74 => ?_) (fun h74 => ?_)
        · skip
          refine ex_vret ok_X12_picked (mi 107 rfl) rfl ?_
          exact ⟨_, rfl, rfl, J11⟩
        · skip
          refine ex_aload_n ok_X12_picked (mi 51 rfl) rfl ?_
          refine ex_getRx ok_X12_picked (mi 52 rfl) rfl rfl (fk (MI_s J11) 0 rfl) (fr (MI_s J11) 25 rfl) (fk (MI_s J11) 26 rfl) (by decide) ?_
          refine ex_iload_n ok_X12_picked (mi 53 rfl) rfl ?_
          refine ex_iconst ok_X12_picked (mi 54 rfl) ?_
          refine mf_A J11 ok_X12_picked (mi 55 rfl) (fk (MI_s J11) 26 rfl) (fn (MI_s J11) 26 rfl) rfl (by omega) (by decide) (by decide) (by decide) (by decide) (fun g20 J21 K22 => ?_)
          have mk23 := KK_mk K22 mk13
          refine ex_aload_n ok_X12_picked (mi 56 rfl) rfl ?_
          refine ex_bipush ok_X12_picked (mi 57 rfl) ?_
          refine ex_iload_n ok_X12_picked (mi 58 rfl) rfl ?_
          refine ex_aload_n ok_X12_picked (mi 59 rfl) rfl ?_
          refine ex_getRx ok_X12_picked (mi 60 rfl) rfl rfl (fk (MI_s J21) 0 rfl) (fr (MI_s J21) 5 rfl) (fk (MI_s J21) 6 rfl) (by decide) ?_
          refine ex_iload_n ok_X12_picked (mi 61 rfl) rfl ?_
          refine sm_iald ok_X12_picked (mi 62 rfl) (fk (MI_s J21) 6 rfl) (fn (MI_s J21) 6 rfl) rfl (by omega) (by decide) ?_
          obtain ⟨v24, hv24, ev24⟩ := vp_in_of (n := 512) (MI_bd J21 0 rfl (i := a0) (by omega)) (by decide)
          refine ex_top (w := nI v24) ev24 ?_
          refine ex_aload_n ok_X12_picked (mi 63 rfl) rfl ?_
          refine ex_getRx ok_X12_picked (mi 64 rfl) rfl rfl (fk (MI_s J21) 0 rfl) (fr (MI_s J21) 4 rfl) (fk (MI_s J21) 5 rfl) (by decide) ?_
          refine ex_iload_n ok_X12_picked (mi 65 rfl) rfl ?_
          refine sm_iald ok_X12_picked (mi 66 rfl) (fk (MI_s J21) 5 rfl) (fn (MI_s J21) 5 rfl) rfl (by omega) (by decide) ?_
          refine ex_gen (fun w25 => ?_)
          refine ex_aload_n ok_X12_picked (mi 67 rfl) rfl ?_
          refine ex_getRx ok_X12_picked (mi 68 rfl) rfl rfl (fk (MI_s J21) 0 rfl) (fr (MI_s J21) 26 rfl) (fk (MI_s J21) 27 rfl) (by decide) ?_
          refine ex_iload_n ok_X12_picked (mi 69 rfl) rfl ?_
          refine sm_iald ok_X12_picked (mi 70 rfl) (fk (MI_s J21) 27 rfl) (fn (MI_s J21) 27 rfl) rfl (by omega) (by decide) ?_
          obtain ⟨v26, hv26, ev26⟩ := vp_in_of (n := 512) (MI_bd J21 6 rfl (i := a0) (by omega)) (by decide)
          refine ex_top (w := nI v26) ev26 ?_
          refine ex_iconst ok_X12_picked (mi 71 rfl) ?_
          refine sm_V (As := [_, _, _, _, _, _]) ok_X12_picked (mi 72 rfl) rfl (s_X12_layAll hst J21 (κ := 22) (by decide) (Or.inr (vp_in_nI (N := 3) (by omega) (by decide))) (TO9 rfl (vp_in_nI (N := 512) (by omega) (by decide))) (Or.inl rfl) (Or.inr (vp_in_nI (N := 512) (by omega) (by decide))) (Or.inl rfl)) rfl (fk (MI_s J21) 0 rfl) rfl rfl (by decide) (by decide) (Nat.le_of_ble_eq_true rfl) (by decide) SM_no (fun z27 g29 p28 => ?_)
          obtain ⟨u31, eu31, u31p, J30⟩ := p28
          cases eu31
          obtain ⟨v32, rfl⟩ := u31p
          refine ex_istore_n ok_X12_picked (mi 73 rfl) ?_
          refine ex_iload_n ok_X12_picked (mi 74 rfl) rfl ?_
          refine ex_aload_n ok_X12_picked (mi 75 rfl) rfl ?_
          refine ex_bipush ok_X12_picked (mi 76 rfl) ?_
          refine ex_iload_n ok_X12_picked (mi 77 rfl) rfl ?_
          refine ex_aload_n ok_X12_picked (mi 78 rfl) rfl ?_
          refine ex_getRx ok_X12_picked (mi 79 rfl) rfl rfl (fk (MI_s J30) 0 rfl) (fr (MI_s J30) 26 rfl) (fk (MI_s J30) 27 rfl) (by decide) ?_
          refine ex_iload_n ok_X12_picked (mi 80 rfl) rfl ?_
          refine sm_iald ok_X12_picked (mi 81 rfl) (fk (MI_s J30) 27 rfl) (fn (MI_s J30) 27 rfl) rfl (by omega) (by decide) ?_
          obtain ⟨v33, hv33, ev33⟩ := vp_in_of (n := 512) (MI_bd J30 6 rfl (i := a0) (by omega)) (by decide)
          refine ex_top (w := nI v33) ev33 ?_
          refine ex_aload_n ok_X12_picked (mi 82 rfl) rfl ?_
          refine ex_getRx ok_X12_picked (mi 83 rfl) rfl rfl (fk (MI_s J30) 0 rfl) (fr (MI_s J30) 4 rfl) (fk (MI_s J30) 5 rfl) (by decide) ?_
          refine ex_iload_n ok_X12_picked (mi 84 rfl) rfl ?_
          refine sm_iald ok_X12_picked (mi 85 rfl) (fk (MI_s J30) 5 rfl) (fn (MI_s J30) 5 rfl) rfl (by omega) (by decide) ?_
          refine ex_gen (fun w34 => ?_)
          refine ex_aload_n ok_X12_picked (mi 86 rfl) rfl ?_
          refine ex_getRx ok_X12_picked (mi 87 rfl) rfl rfl (fk (MI_s J30) 0 rfl) (fr (MI_s J30) 26 rfl) (fk (MI_s J30) 27 rfl) (by decide) ?_
          refine ex_iload_n ok_X12_picked (mi 88 rfl) rfl ?_
          refine sm_iald ok_X12_picked (mi 89 rfl) (fk (MI_s J30) 27 rfl) (fn (MI_s J30) 27 rfl) rfl (by omega) (by decide) ?_
          refine ex_top (w := nI v33) ev33 ?_
          refine ex_iconst ok_X12_picked (mi 90 rfl) ?_
          refine sm_V (As := [_, _, _, _, _, _]) ok_X12_picked (mi 91 rfl) rfl (s_X12_layAll hst J30 (κ := 22) (by decide) (Or.inr (vp_in_nI (N := 3) (by omega) (by decide))) (TO9 rfl (vp_in_nI (N := 512) (by omega) (by decide))) (Or.inl rfl) (Or.inr (vp_in_nI (N := 512) (by omega) (by decide))) (Or.inl rfl)) rfl (fk (MI_s J30) 0 rfl) rfl rfl (by decide) (by decide) (Nat.le_of_ble_eq_true rfl) (by decide) SM_no (fun z35 g37 p36 => ?_)
          obtain ⟨u39, eu39, u39p, J38⟩ := p36
          cases eu39
          obtain ⟨v40, rfl⟩ := u39p
          refine ex_iadd ok_X12_picked (mi 92 rfl) ?_
          refine ex_gen (fun w41 => ?_)
          refine ex_istore_n ok_X12_picked (mi 93 rfl) ?_
          refine ex_aload_n ok_X12_picked (mi 94 rfl) rfl ?_
          refine ex_iload_n ok_X12_picked (mi 95 rfl) rfl ?_
          refine ex_aload_n ok_X12_picked (mi 96 rfl) rfl ?_
          refine ex_getRx ok_X12_picked (mi 97 rfl) rfl rfl (fk (MI_s J38) 0 rfl) (fr (MI_s J38) 4 rfl) (fk (MI_s J38) 5 rfl) (by decide) ?_
          refine ex_iload_n ok_X12_picked (mi 98 rfl) rfl ?_
          refine sm_iald ok_X12_picked (mi 99 rfl) (fk (MI_s J38) 5 rfl) (fn (MI_s J38) 5 rfl) rfl (by omega) (by decide) ?_
          refine ex_gen (fun w42 => ?_)
          refine ex_iconst ok_X12_picked (mi 100 rfl) ?_
          refine ex_iadd ok_X12_picked (mi 101 rfl) ?_
          refine ex_gen (fun w43 => ?_)
          refine ex_aload_n ok_X12_picked (mi 102 rfl) rfl ?_
          refine ex_getRx ok_X12_picked (mi 103 rfl) rfl rfl (fk (MI_s J38) 0 rfl) (fr (MI_s J38) 26 rfl) (fk (MI_s J38) 27 rfl) (by decide) ?_
          refine ex_iload_n ok_X12_picked (mi 104 rfl) rfl ?_
          refine sm_iald ok_X12_picked (mi 105 rfl) (fk (MI_s J38) 27 rfl) (fn (MI_s J38) 27 rfl) rfl (by omega) (by decide) ?_
          obtain ⟨v44, hv44, ev44⟩ := vp_in_of (n := 512) (MI_bd J38 6 rfl (i := a0) (by omega)) (by decide)
          refine ex_top (w := nI v44) ev44 ?_
          refine sm_V (As := [_, _, _]) ok_X12_picked (mi 106 rfl) rfl (s_X12_goOn hst J38 (by omega) (by omega)) rfl (fk (MI_s J38) 0 rfl) rfl rfl (by decide) (by decide) (Nat.le_of_ble_eq_true rfl) (by decide) SM_no (fun z45 g47 p46 => ?_)
          obtain ⟨u49, eu49, u49p, J48⟩ := p46
          cases eu49
          obtain rfl : z45 = none := u49p
          refine ex_vret ok_X12_picked (mi 107 rfl) rfl ?_
          exact ⟨_, rfl, rfl, J48⟩
      · skip
        refine ex_vret ok_X12_picked (mi 30 rfl) rfl ?_
        exact ⟨_, rfl, rfl, I⟩
