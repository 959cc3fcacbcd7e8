theorem clear_b {G : GE} (hst : (ge_l G).stackTraces = false) {y c : Nat} {D : UT} {R : Nat → Prop} {g : GT} {Q : RT → GT → Prop} (hR : ∀ l, ¬ R l) (I : MI y D c R g) (hq : ∀ g, MI y D c R g → ex_W G 3 0 0 M_X12_clear 297 [(0, .ref y)] [] g Q) : ex_W G 3 0 0 M_X12_clear 26 [(0, .ref y)] [] g Q := by
  refine ex_iconst ok_X12_clear (mi 15 rfl) ?_
  refine ex_istore_n ok_X12_clear (mi 16 rfl) ?_
  have lp28 : ∀ n28 k28 : Nat, k28 + n28 = 3 → ∀ (g1 : GT), MI y D c R g1 → ex_W G 3 0 0 M_X12_clear 28 [(0, .ref y), (1, .int (nI (k28)))] [] g1 (Q) := by
    intro n28
    induction n28 with
    | zero =>
      intro k28 he28  g1 J2 
      obtain rfl : k28 = 3 := by omega
      refine ex_iload_n ok_X12_clear (mi 17 rfl) rfl ?_
      refine ex_iconst ok_X12_clear (mi 18 rfl) ?_
      refine ex_icmp_ge (tgt := 106) ok_X12_clear (mi 19 rfl) rfl (fun _ => ?_) (fun hn => absurd (by decide) hn)
      refine ex_iconst ok_X12_clear (mi 68 rfl) ?_
      refine ex_istore_n ok_X12_clear (mi 69 rfl) ?_
      have lp108 : ∀ n108 k108 : Nat, k108 + n108 = 9 → ∀ (g3 : GT), MI y D c R g3 → ex_W G 3 0 0 M_X12_clear 108 [(0, .ref y), (1, .int (nI (k108)))] [] g3 (Q) := by
        intro n108
        induction n108 with
        | zero =>
          intro k108 he108  g3 J4 
          obtain rfl : k108 = 9 := by omega
          refine ex_iload_n ok_X12_clear (mi 70 rfl) rfl ?_
          refine ex_bipush ok_X12_clear (mi 71 rfl) ?_
          refine ex_icmp_ge (tgt := 204) ok_X12_clear (mi 72 rfl) rfl (fun _ => ?_) (fun hn => absurd (by decide) hn)
          refine ex_iconst ok_X12_clear (mi 130 rfl) ?_
          refine ex_istore_n ok_X12_clear (mi 131 rfl) ?_
          have lp206 : ∀ n206 k206 : Nat, k206 + n206 = 2700 → ∀ (g5 : GT), MI y D c R g5 → ex_W G 3 0 0 M_X12_clear 206 [(0, .ref y), (1, .int (nI (k206)))] [] g5 (Q) := by
            intro n206
            induction n206 with
            | zero =>
              intro k206 he206  g5 J6 
              obtain rfl : k206 = 2700 := by omega
              refine ex_iload_n ok_X12_clear (mi 132 rfl) rfl ?_
              refine ex_sipush ok_X12_clear (mi 133 rfl) ?_
              refine ex_icmp_ge (tgt := 226) ok_X12_clear (mi 134 rfl) rfl (fun _ => ?_) (fun hn => absurd (by decide) hn)
              refine ex_iconst ok_X12_clear (mi 142 rfl) ?_
              refine ex_istore_n ok_X12_clear (mi 143 rfl) ?_
              have lp228 : ∀ n228 k228 : Nat, k228 + n228 = 12 → ∀ (g7 : GT), MI y D c R g7 → ex_W G 3 0 0 M_X12_clear 228 [(0, .ref y), (1, .int (nI (k228)))] [] g7 (Q) := by
                intro n228
                induction n228 with
                | zero =>
                  intro k228 he228  g7 J8 
                  obtain rfl : k228 = 12 := by omega
                  refine ex_iload_n ok_X12_clear (mi 144 rfl) rfl ?_
                  refine ex_bipush ok_X12_clear (mi 145 rfl) ?_
                  refine ex_icmp_ge (tgt := 254) ok_X12_clear (mi 146 rfl) rfl (fun _ => ?_) (fun hn => absurd (by decide) hn)
                  refine ex_iconst ok_X12_clear (mi 159 rfl) ?_
                  refine ex_istore_n ok_X12_clear (mi 160 rfl) ?_
                  have lp256 : ∀ n256 k256 : Nat, k256 + n256 = 192 → ∀ (g9 : GT), MI y D c R g9 → ex_W G 3 0 0 M_X12_clear 256 [(0, .ref y), (1, .int (nI (k256)))] [] g9 (Q) := by
                    intro n256
                    induction n256 with
                    | zero =>
                      intro k256 he256  g9 J10 
                      obtain rfl : k256 = 192 := by omega
                      refine ex_iload_n ok_X12_clear (mi 161 rfl) rfl ?_
                      refine ex_sipush ok_X12_clear (mi 162 rfl) ?_
                      refine ex_icmp_ge (tgt := 276) ok_X12_clear (mi 163 rfl) rfl (fun _ => ?_) (fun hn => absurd (by decide) hn)
                      refine ex_iconst ok_X12_clear (mi 171 rfl) ?_
                      refine ex_istore_n ok_X12_clear (mi 172 rfl) ?_
                      have lp278 : ∀ n278 k278 : Nat, k278 + n278 = 48 → ∀ (g11 : GT), MI y D c R g11 → ex_W G 3 0 0 M_X12_clear 278 [(0, .ref y), (1, .int (nI (k278)))] [] g11 (Q) := by
                        intro n278
                        induction n278 with
                        | zero =>
                          intro k278 he278  g11 J12 
                          obtain rfl : k278 = 48 := by omega
                          refine ex_iload_n ok_X12_clear (mi 173 rfl) rfl ?_
                          refine ex_bipush ok_X12_clear (mi 174 rfl) ?_
                          refine ex_icmp_ge (tgt := 297) ok_X12_clear (mi 175 rfl) rfl (fun _ => ?_) (fun hn => absurd (by decide) hn)
                          exact ex_ls (ls' := [(0, .ref y)]) ⟨rfl, trivial⟩ (hq g11 J12)
                        | succ n278 ih278 =>
                          intro k278 he278  g11 J12 
                          have hr278 : k278 < 48 := by omega
                          refine ex_iload_n ok_X12_clear (mi 173 rfl) rfl ?_
                          refine ex_bipush ok_X12_clear (mi 174 rfl) ?_
                          refine ex_icmp_ge (tgt := 297) ok_X12_clear (mi 175 rfl) rfl (fun hn => absurd hn (nI_ge (b := 48) hr278 (by decide))) (fun _ => ?_)
                          refine ex_aload_n ok_X12_clear (mi 176 rfl) rfl ?_
                          refine ex_getRx ok_X12_clear (mi 177 rfl) rfl rfl (fk (MI_s J12) 0 rfl) (fr (MI_s J12) 46 rfl) (fk (MI_s J12) 47 rfl) (by decide) ?_
                          refine ex_iload_n ok_X12_clear (mi 178 rfl) rfl ?_
                          refine ex_iconst ok_X12_clear (mi 179 rfl) ?_
                          refine mf_A J12 ok_X12_clear (mi 180 rfl) (fk (MI_s J12) 47 rfl) (fn (MI_s J12) 47 rfl) rfl (by omega) (by decide) (by decide) (by decide) (by decide) (fun g13 J14 K15 => ?_)
                          refine ex_iincx (w := (nI (k278 + 1))) ok_X12_clear (mi 181 rfl) rfl (nI_1 _) ?_
                          refine ex_goto (tgt := 278) ok_X12_clear (mi 182 rfl) rfl ?_
                          exact ex_ls (ls' := [(0, .ref y), (1, .int (nI (k278 + 1)))]) ⟨rfl, rfl, trivial⟩ (ih278 (k278 + 1) (by omega) g13 J14 )
                      exact ex_ls (ls' := [(0, .ref y), (1, .int (nI 0))]) ⟨rfl, rfl, trivial⟩ (lp278 (48 - 0) (0) (by omega) g9 J10 )
                    | succ n256 ih256 =>
                      intro k256 he256  g9 J10 
                      have hr256 : k256 < 192 := by omega
                      refine ex_iload_n ok_X12_clear (mi 161 rfl) rfl ?_
                      refine ex_sipush ok_X12_clear (mi 162 rfl) ?_
                      refine ex_icmp_ge (tgt := 276) ok_X12_clear (mi 163 rfl) rfl (fun hn => absurd hn (nI_ge (b := 192) hr256 (by decide))) (fun _ => ?_)
                      refine ex_aload_n ok_X12_clear (mi 164 rfl) rfl ?_
                      refine ex_getRx ok_X12_clear (mi 165 rfl) rfl rfl (fk (MI_s J10) 0 rfl) (fr (MI_s J10) 44 rfl) (fk (MI_s J10) 45 rfl) (by decide) ?_
                      refine ex_iload_n ok_X12_clear (mi 166 rfl) rfl ?_
                      refine ex_iconst ok_X12_clear (mi 167 rfl) ?_
                      refine mf_A J10 ok_X12_clear (mi 168 rfl) (fk (MI_s J10) 45 rfl) (fn (MI_s J10) 45 rfl) rfl (by omega) (by decide) (by decide) (by decide) (by decide) (fun g16 J17 K18 => ?_)
                      refine ex_iincx (w := (nI (k256 + 1))) ok_X12_clear (mi 169 rfl) rfl (nI_1 _) ?_
                      refine ex_goto (tgt := 256) ok_X12_clear (mi 170 rfl) rfl ?_
                      exact ex_ls (ls' := [(0, .ref y), (1, .int (nI (k256 + 1)))]) ⟨rfl, rfl, trivial⟩ (ih256 (k256 + 1) (by omega) g16 J17 )
                  exact ex_ls (ls' := [(0, .ref y), (1, .int (nI 0))]) ⟨rfl, rfl, trivial⟩ (lp256 (192 - 0) (0) (by omega) g7 J8 )
                | succ n228 ih228 =>
                  intro k228 he228  g7 J8 
                  have hr228 : k228 < 12 := by omega
                  refine ex_iload_n ok_X12_clear (mi 144 rfl) rfl ?_
                  refine ex_bipush ok_X12_clear (mi 145 rfl) ?_
                  refine ex_icmp_ge (tgt := 254) ok_X12_clear (mi 146 rfl) rfl (fun hn => absurd hn (nI_ge (b := 12) hr228 (by decide))) (fun _ => ?_)
                  refine ex_aload_n ok_X12_clear (mi 147 rfl) rfl ?_
                  refine ex_getRx ok_X12_clear (mi 148 rfl) rfl rfl (fk (MI_s J8) 0 rfl) (fr (MI_s J8) 42 rfl) (fk (MI_s J8) 43 rfl) (by decide) ?_
                  refine ex_iload_n ok_X12_clear (mi 149 rfl) rfl ?_
                  refine ex_iconst ok_X12_clear (mi 150 rfl) ?_
                  refine mf_A J8 ok_X12_clear (mi 151 rfl) (fk (MI_s J8) 43 rfl) (fn (MI_s J8) 43 rfl) rfl (by omega) (by decide) (by decide) (by decide) (by decide) (fun g19 J20 K21 => ?_)
                  refine ex_aload_n ok_X12_clear (mi 152 rfl) rfl ?_
                  refine ex_getRx ok_X12_clear (mi 153 rfl) rfl rfl (fk (MI_s J20) 0 rfl) (fr (MI_s J20) 43 rfl) (fk (MI_s J20) 44 rfl) (by decide) ?_
                  refine ex_iload_n ok_X12_clear (mi 154 rfl) rfl ?_
                  refine ex_iconst ok_X12_clear (mi 155 rfl) ?_
                  refine mf_B J20 ok_X12_clear (mi 156 rfl) (fk (MI_s J20) 44 rfl) (fn (MI_s J20) 44 rfl) rfl (by omega) (by decide) (B := 17) (by decide) (by decide) (by decide) (pk_in 0 17 (by decide)) (fun g22 J23 K24 => ?_)
                  refine ex_iincx (w := (nI (k228 + 1))) ok_X12_clear (mi 157 rfl) rfl (nI_1 _) ?_
                  refine ex_goto (tgt := 228) ok_X12_clear (mi 158 rfl) rfl ?_
                  exact ex_ls (ls' := [(0, .ref y), (1, .int (nI (k228 + 1)))]) ⟨rfl, rfl, trivial⟩ (ih228 (k228 + 1) (by omega) g22 J23 )
              exact ex_ls (ls' := [(0, .ref y), (1, .int (nI 0))]) ⟨rfl, rfl, trivial⟩ (lp228 (12 - 0) (0) (by omega) g5 J6 )
            | succ n206 ih206 =>
              intro k206 he206  g5 J6 
              have hr206 : k206 < 2700 := by omega
              refine ex_iload_n ok_X12_clear (mi 132 rfl) rfl ?_
              refine ex_sipush ok_X12_clear (mi 133 rfl) ?_
              refine ex_icmp_ge (tgt := 226) ok_X12_clear (mi 134 rfl) rfl (fun hn => absurd hn (nI_ge (b := 2700) hr206 (by decide))) (fun _ => ?_)
              refine ex_aload_n ok_X12_clear (mi 135 rfl) rfl ?_
              refine ex_getRx ok_X12_clear (mi 136 rfl) rfl rfl (fk (MI_s J6) 0 rfl) (fr (MI_s J6) 37 rfl) (fk (MI_s J6) 38 rfl) (by decide) ?_
              refine ex_iload_n ok_X12_clear (mi 137 rfl) rfl ?_
              refine ex_iconst ok_X12_clear (mi 138 rfl) ?_
              refine mf_A J6 ok_X12_clear (mi 139 rfl) (fk (MI_s J6) 38 rfl) (fn (MI_s J6) 38 rfl) rfl (by omega) (by decide) (by decide) (by decide) (by decide) (fun g25 J26 K27 => ?_)
              refine ex_iincx (w := (nI (k206 + 1))) ok_X12_clear (mi 140 rfl) rfl (nI_1 _) ?_
              refine ex_goto (tgt := 206) ok_X12_clear (mi 141 rfl) rfl ?_
              exact ex_ls (ls' := [(0, .ref y), (1, .int (nI (k206 + 1)))]) ⟨rfl, rfl, trivial⟩ (ih206 (k206 + 1) (by omega) g25 J26 )
          exact ex_ls (ls' := [(0, .ref y), (1, .int (nI 0))]) ⟨rfl, rfl, trivial⟩ (lp206 (2700 - 0) (0) (by omega) g3 J4 )
        | succ n108 ih108 =>
          intro k108 he108  g3 J4 
          have hr108 : k108 < 9 := by omega
          refine ex_iload_n ok_X12_clear (mi 70 rfl) rfl ?_
          refine ex_bipush ok_X12_clear (mi 71 rfl) ?_
          refine ex_icmp_ge (tgt := 204) ok_X12_clear (mi 72 rfl) rfl (fun hn => absurd hn (nI_ge (b := 9) hr108 (by decide))) (fun _ => ?_)
          refine ex_aload_n ok_X12_clear (mi 73 rfl) rfl ?_
          refine ex_getRx ok_X12_clear (mi 74 rfl) rfl rfl (fk (MI_s J4) 0 rfl) (fr (MI_s J4) 33 rfl) (fk (MI_s J4) 34 rfl) (by decide) ?_
          refine ex_iload_n ok_X12_clear (mi 75 rfl) rfl ?_
          refine ex_iload_n ok_X12_clear (mi 76 rfl) rfl ?_
          refine ex_iconst ok_X12_clear (mi 77 rfl) ?_
          refine ex_icmp_ge (tgt := 128) ok_X12_clear (mi 78 rfl) rfl (fun h121 => ?_) (fun h121 => ?_)
          · skip
            refine ex_iconst ok_X12_clear (mi 81 rfl) ?_
            refine mf_A J4 ok_X12_clear (mi 82 rfl) (fk (MI_s J4) 34 rfl) (fn (MI_s J4) 34 rfl) rfl (by omega) (by decide) (by decide) (by decide) (by decide) (fun g28 J29 K30 => ?_)
            refine ex_aload_n ok_X12_clear (mi 83 rfl) rfl ?_
            refine ex_getRx ok_X12_clear (mi 84 rfl) rfl rfl (fk (MI_s J29) 0 rfl) (fr (MI_s J29) 34 rfl) (fk (MI_s J29) 35 rfl) (by decide) ?_
            refine ex_iload_n ok_X12_clear (mi 85 rfl) rfl ?_
            refine ex_iload_n ok_X12_clear (mi 86 rfl) rfl ?_
            refine ex_iconst ok_X12_clear (mi 87 rfl) ?_
            refine ex_icmp_ge (tgt := 144) ok_X12_clear (mi 88 rfl) rfl (fun h137 => ?_) (fun h137 => ?_)
            · skip
              refine ex_iconst ok_X12_clear (mi 91 rfl) ?_
              refine mf_A J29 ok_X12_clear (mi 92 rfl) (fk (MI_s J29) 35 rfl) (fn (MI_s J29) 35 rfl) rfl (by omega) (by decide) (by decide) (by decide) (by decide) (fun g31 J32 K33 => ?_)
              refine ex_aload_n ok_X12_clear (mi 93 rfl) rfl ?_
              refine ex_getRx ok_X12_clear (mi 94 rfl) rfl rfl (fk (MI_s J32) 0 rfl) (fr (MI_s J32) 35 rfl) (fk (MI_s J32) 36 rfl) (by decide) ?_
              refine ex_iload_n ok_X12_clear (mi 95 rfl) rfl ?_
              refine ex_iload_n ok_X12_clear (mi 96 rfl) rfl ?_
              refine ex_iconst ok_X12_clear (mi 97 rfl) ?_
              refine ex_icmp_ge (tgt := 161) ok_X12_clear (mi 98 rfl) rfl (fun h153 => ?_) (fun h153 => ?_)
              · skip
                refine ex_iconst ok_X12_clear (mi 101 rfl) ?_
                refine mf_B J32 ok_X12_clear (mi 102 rfl) (fk (MI_s J32) 36 rfl) (fn (MI_s J32) 36 rfl) rfl (by omega) (by decide) (B := 512) (by decide) (by decide) (by decide) (pk_in 0 512 (by decide)) (fun g34 J35 K36 => ?_)
                refine ex_aload_n ok_X12_clear (mi 103 rfl) rfl ?_
                refine ex_getRx ok_X12_clear (mi 104 rfl) rfl rfl (fk (MI_s J35) 0 rfl) (fr (MI_s J35) 36 rfl) (fk (MI_s J35) 37 rfl) (by decide) ?_
                refine ex_iload_n ok_X12_clear (mi 105 rfl) rfl ?_
                refine ex_iconst ok_X12_clear (mi 106 rfl) ?_
                refine mf_B J35 ok_X12_clear (mi 107 rfl) (fk (MI_s J35) 37 rfl) (fn (MI_s J35) 37 rfl) rfl (by omega) (by decide) (B := 300) (by decide) (by decide) (by decide) (pk_in 0 300 (by decide)) (fun g37 J38 K39 => ?_)
                refine ex_aload_n ok_X12_clear (mi 108 rfl) rfl ?_
                refine ex_getRx ok_X12_clear (mi 109 rfl) rfl rfl (fk (MI_s J38) 0 rfl) (fr (MI_s J38) 38 rfl) (fk (MI_s J38) 39 rfl) (by decide) ?_
                refine ex_iload_n ok_X12_clear (mi 110 rfl) rfl ?_
                refine ex_iconst ok_X12_clear (mi 111 rfl) ?_
                refine mf_A J38 ok_X12_clear (mi 112 rfl) (fk (MI_s J38) 39 rfl) (fn (MI_s J38) 39 rfl) rfl (by omega) (by decide) (by decide) (by decide) (by decide) (fun g40 J41 K42 => ?_)
                refine ex_aload_n ok_X12_clear (mi 113 rfl) rfl ?_
                refine ex_getRx ok_X12_clear (mi 114 rfl) rfl rfl (fk (MI_s J41) 0 rfl) (fr (MI_s J41) 39 rfl) (fk (MI_s J41) 40 rfl) (by decide) ?_
                refine ex_iload_n ok_X12_clear (mi 115 rfl) rfl ?_
                refine ex_iconst ok_X12_clear (mi 116 rfl) ?_
                refine mf_A J41 ok_X12_clear (mi 117 rfl) (fk (MI_s J41) 40 rfl) (fn (MI_s J41) 40 rfl) rfl (by omega) (by decide) (by decide) (by decide) (by decide) (fun g43 J44 K45 => ?_)
                refine ex_aload_n ok_X12_clear (mi 118 rfl) rfl ?_
                refine ex_getRx ok_X12_clear (mi 119 rfl) rfl rfl (fk (MI_s J44) 0 rfl) (fr (MI_s J44) 40 rfl) (fk (MI_s J44) 41 rfl) (by decide) ?_
                refine ex_iload_n ok_X12_clear (mi 120 rfl) rfl ?_
                refine ex_iconst ok_X12_clear (mi 121 rfl) ?_
                refine mf_B J44 ok_X12_clear (mi 122 rfl) (fk (MI_s J44) 41 rfl) (fn (MI_s J44) 41 rfl) rfl (by omega) (by decide) (B := 512) (by decide) (by decide) (by decide) (pk_in 0 512 (by decide)) (fun g46 J47 K48 => ?_)
                refine ex_aload_n ok_X12_clear (mi 123 rfl) rfl ?_
                refine ex_getRx ok_X12_clear (mi 124 rfl) rfl rfl (fk (MI_s J47) 0 rfl) (fr (MI_s J47) 41 rfl) (fk (MI_s J47) 42 rfl) (by decide) ?_
                refine ex_iload_n ok_X12_clear (mi 125 rfl) rfl ?_
                refine ex_iconst ok_X12_clear (mi 126 rfl) ?_
                refine mf_B J47 ok_X12_clear (mi 127 rfl) (fk (MI_s J47) 42 rfl) (fn (MI_s J47) 42 rfl) rfl (by omega) (by decide) (B := 512) (by decide) (by decide) (by decide) (pk_in 0 512 (by decide)) (fun g49 J50 K51 => ?_)
                refine ex_iincx (w := (nI (k108 + 1))) ok_X12_clear (mi 128 rfl) rfl (nI_1 _) ?_
                refine ex_goto (tgt := 108) ok_X12_clear (mi 129 rfl) rfl ?_
                exact ex_ls (ls' := [(0, .ref y), (1, .int (nI (k108 + 1)))]) ⟨rfl, rfl, trivial⟩ (ih108 (k108 + 1) (by omega) g49 J50 )
              · skip
                have l153 : k108 < 3 := Nat.lt_of_not_le (fun q => h153 (nI_le (a := 3) q (by omega)))
                refine ex_bipush ok_X12_clear (mi 99 rfl) ?_
                refine ex_goto (tgt := 162) ok_X12_clear (mi 100 rfl) rfl ?_
                refine mf_B J32 ok_X12_clear (mi 102 rfl) (fk (MI_s J32) 36 rfl) (fn (MI_s J32) 36 rfl) rfl (by omega) (by decide) (B := 512) (by decide) (by decide) (by decide) (pk_in 7 512 (by decide)) (fun g52 J53 K54 => ?_)
                refine ex_aload_n ok_X12_clear (mi 103 rfl) rfl ?_
                refine ex_getRx ok_X12_clear (mi 104 rfl) rfl rfl (fk (MI_s J53) 0 rfl) (fr (MI_s J53) 36 rfl) (fk (MI_s J53) 37 rfl) (by decide) ?_
                refine ex_iload_n ok_X12_clear (mi 105 rfl) rfl ?_
                refine ex_iconst ok_X12_clear (mi 106 rfl) ?_
                refine mf_B J53 ok_X12_clear (mi 107 rfl) (fk (MI_s J53) 37 rfl) (fn (MI_s J53) 37 rfl) rfl (by omega) (by decide) (B := 300) (by decide) (by decide) (by decide) (pk_in 0 300 (by decide)) (fun g55 J56 K57 => ?_)
                refine ex_aload_n ok_X12_clear (mi 108 rfl) rfl ?_
                refine ex_getRx ok_X12_clear (mi 109 rfl) rfl rfl (fk (MI_s J56) 0 rfl) (fr (MI_s J56) 38 rfl) (fk (MI_s J56) 39 rfl) (by decide) ?_
                refine ex_iload_n ok_X12_clear (mi 110 rfl) rfl ?_
                refine ex_iconst ok_X12_clear (mi 111 rfl) ?_
                refine mf_A J56 ok_X12_clear (mi 112 rfl) (fk (MI_s J56) 39 rfl) (fn (MI_s J56) 39 rfl) rfl (by omega) (by decide) (by decide) (by decide) (by decide) (fun g58 J59 K60 => ?_)
                refine ex_aload_n ok_X12_clear (mi 113 rfl) rfl ?_
                refine ex_getRx ok_X12_clear (mi 114 rfl) rfl rfl (fk (MI_s J59) 0 rfl) (fr (MI_s J59) 39 rfl) (fk (MI_s J59) 40 rfl) (by decide) ?_
                refine ex_iload_n ok_X12_clear (mi 115 rfl) rfl ?_
                refine ex_iconst ok_X12_clear (mi 116 rfl) ?_
                refine mf_A J59 ok_X12_clear (mi 117 rfl) (fk (MI_s J59) 40 rfl) (fn (MI_s J59) 40 rfl) rfl (by omega) (by decide) (by decide) (by decide) (by decide) (fun g61 J62 K63 => ?_)
                refine ex_aload_n ok_X12_clear (mi 118 rfl) rfl ?_
                refine ex_getRx ok_X12_clear (mi 119 rfl) rfl rfl (fk (MI_s J62) 0 rfl) (fr (MI_s J62) 40 rfl) (fk (MI_s J62) 41 rfl) (by decide) ?_
                refine ex_iload_n ok_X12_clear (mi 120 rfl) rfl ?_
                refine ex_iconst ok_X12_clear (mi 121 rfl) ?_
                refine mf_B J62 ok_X12_clear (mi 122 rfl) (fk (MI_s J62) 41 rfl) (fn (MI_s J62) 41 rfl) rfl (by omega) (by decide) (B := 512) (by decide) (by decide) (by decide) (pk_in 0 512 (by decide)) (fun g64 J65 K66 => ?_)
                refine ex_aload_n ok_X12_clear (mi 123 rfl) rfl ?_
                refine ex_getRx ok_X12_clear (mi 124 rfl) rfl rfl (fk (MI_s J65) 0 rfl) (fr (MI_s J65) 41 rfl) (fk (MI_s J65) 42 rfl) (by decide) ?_
                refine ex_iload_n ok_X12_clear (mi 125 rfl) rfl ?_
                refine ex_iconst ok_X12_clear (mi 126 rfl) ?_
                refine mf_B J65 ok_X12_clear (mi 127 rfl) (fk (MI_s J65) 42 rfl) (fn (MI_s J65) 42 rfl) rfl (by omega) (by decide) (B := 512) (by decide) (by decide) (by decide) (pk_in 0 512 (by decide)) (fun g67 J68 K69 => ?_)
                refine ex_iincx (w := (nI (k108 + 1))) ok_X12_clear (mi 128 rfl) rfl (nI_1 _) ?_
                refine ex_goto (tgt := 108) ok_X12_clear (mi 129 rfl) rfl ?_
                exact ex_ls (ls' := [(0, .ref y), (1, .int (nI (k108 + 1)))]) ⟨rfl, rfl, trivial⟩ (ih108 (k108 + 1) (by omega) g67 J68 )
            · skip
              have l137 : k108 < 3 := Nat.lt_of_not_le (fun q => h137 (nI_le (a := 3) q (by omega)))
              refine ex_iconst ok_X12_clear (mi 89 rfl) ?_
              refine ex_goto (tgt := 145) ok_X12_clear (mi 90 rfl) rfl ?_
              refine mf_A J29 ok_X12_clear (mi 92 rfl) (fk (MI_s J29) 35 rfl) (fn (MI_s J29) 35 rfl) rfl (by omega) (by decide) (by decide) (by decide) (by decide) (fun g70 J71 K72 => ?_)
              refine ex_aload_n ok_X12_clear (mi 93 rfl) rfl ?_
              refine ex_getRx ok_X12_clear (mi 94 rfl) rfl rfl (fk (MI_s J71) 0 rfl) (fr (MI_s J71) 35 rfl) (fk (MI_s J71) 36 rfl) (by decide) ?_
              refine ex_iload_n ok_X12_clear (mi 95 rfl) rfl ?_
              refine ex_iload_n ok_X12_clear (mi 96 rfl) rfl ?_
              refine ex_iconst ok_X12_clear (mi 97 rfl) ?_
              refine ex_icmp_ge (tgt := 161) ok_X12_clear (mi 98 rfl) rfl (fun h153 => ?_) (fun h153 => ?_)
              · skip
                refine ex_iconst ok_X12_clear (mi 101 rfl) ?_
                refine mf_B J71 ok_X12_clear (mi 102 rfl) (fk (MI_s J71) 36 rfl) (fn (MI_s J71) 36 rfl) rfl (by omega) (by decide) (B := 512) (by decide) (by decide) (by decide) (pk_in 0 512 (by decide)) (fun g73 J74 K75 => ?_)
                refine ex_aload_n ok_X12_clear (mi 103 rfl) rfl ?_
                refine ex_getRx ok_X12_clear (mi 104 rfl) rfl rfl (fk (MI_s J74) 0 rfl) (fr (MI_s J74) 36 rfl) (fk (MI_s J74) 37 rfl) (by decide) ?_
                refine ex_iload_n ok_X12_clear (mi 105 rfl) rfl ?_
                refine ex_iconst ok_X12_clear (mi 106 rfl) ?_
                refine mf_B J74 ok_X12_clear (mi 107 rfl) (fk (MI_s J74) 37 rfl) (fn (MI_s J74) 37 rfl) rfl (by omega) (by decide) (B := 300) (by decide) (by decide) (by decide) (pk_in 0 300 (by decide)) (fun g76 J77 K78 => ?_)
                refine ex_aload_n ok_X12_clear (mi 108 rfl) rfl ?_
                refine ex_getRx ok_X12_clear (mi 109 rfl) rfl rfl (fk (MI_s J77) 0 rfl) (fr (MI_s J77) 38 rfl) (fk (MI_s J77) 39 rfl) (by decide) ?_
                refine ex_iload_n ok_X12_clear (mi 110 rfl) rfl ?_
                refine ex_iconst ok_X12_clear (mi 111 rfl) ?_
                refine mf_A J77 ok_X12_clear (mi 112 rfl) (fk (MI_s J77) 39 rfl) (fn (MI_s J77) 39 rfl) rfl (by omega) (by decide) (by decide) (by decide) (by decide) (fun g79 J80 K81 => ?_)
                refine ex_aload_n ok_X12_clear (mi 113 rfl) rfl ?_
                refine ex_getRx ok_X12_clear (mi 114 rfl) rfl rfl (fk (MI_s J80) 0 rfl) (fr (MI_s J80) 39 rfl) (fk (MI_s J80) 40 rfl) (by decide) ?_
                refine ex_iload_n ok_X12_clear (mi 115 rfl) rfl ?_
                refine ex_iconst ok_X12_clear (mi 116 rfl) ?_
                refine mf_A J80 ok_X12_clear (mi 117 rfl) (fk (MI_s J80) 40 rfl) (fn (MI_s J80) 40 rfl) rfl (by omega) (by decide) (by decide) (by decide) (by decide) (fun g82 J83 K84 => ?_)
                refine ex_aload_n ok_X12_clear (mi 118 rfl) rfl ?_
                refine ex_getRx ok_X12_clear (mi 119 rfl) rfl rfl (fk (MI_s J83) 0 rfl) (fr (MI_s J83) 40 rfl) (fk (MI_s J83) 41 rfl) (by decide) ?_
                refine ex_iload_n ok_X12_clear (mi 120 rfl) rfl ?_
                refine ex_iconst ok_X12_clear (mi 121 rfl) ?_
                refine mf_B J83 ok_X12_clear (mi 122 rfl) (fk (MI_s J83) 41 rfl) (fn (MI_s J83) 41 rfl) rfl (by omega) (by decide) (B := 512) (by decide) (by decide) (by decide) (pk_in 0 512 (by decide)) (fun g85 J86 K87 => ?_)
                refine ex_aload_n ok_X12_clear (mi 123 rfl) rfl ?_
                refine ex_getRx ok_X12_clear (mi 124 rfl) rfl rfl (fk (MI_s J86) 0 rfl) (fr (MI_s J86) 41 rfl) (fk (MI_s J86) 42 rfl) (by decide) ?_
                refine ex_iload_n ok_X12_clear (mi 125 rfl) rfl ?_
                refine ex_iconst ok_X12_clear (mi 126 rfl) ?_
                refine mf_B J86 ok_X12_clear (mi 127 rfl) (fk (MI_s J86) 42 rfl) (fn (MI_s J86) 42 rfl) rfl (by omega) (by decide) (B := 512) (by decide) (by decide) (by decide) (pk_in 0 512 (by decide)) (fun g88 J89 K90 => ?_)
                refine ex_iincx (w := (nI (k108 + 1))) ok_X12_clear (mi 128 rfl) rfl (nI_1 _) ?_
                refine ex_goto (tgt := 108) ok_X12_clear (mi 129 rfl) rfl ?_
                exact ex_ls (ls' := [(0, .ref y), (1, .int (nI (k108 + 1)))]) ⟨rfl, rfl, trivial⟩ (ih108 (k108 + 1) (by omega) g88 J89 )
              · skip
                have l153 : k108 < 3 := Nat.lt_of_not_le (fun q => h153 (nI_le (a := 3) q (by omega)))
                refine ex_bipush ok_X12_clear (mi 99 rfl) ?_
                refine ex_goto (tgt := 162) ok_X12_clear (mi 100 rfl) rfl ?_
                refine mf_B J71 ok_X12_clear (mi 102 rfl) (fk (MI_s J71) 36 rfl) (fn (MI_s J71) 36 rfl) rfl (by omega) (by decide) (B := 512) (by decide) (by decide) (by decide) (pk_in 7 512 (by decide)) (fun g91 J92 K93 => ?_)
                refine ex_aload_n ok_X12_clear (mi 103 rfl) rfl ?_
                refine ex_getRx ok_X12_clear (mi 104 rfl) rfl rfl (fk (MI_s J92) 0 rfl) (fr (MI_s J92) 36 rfl) (fk (MI_s J92) 37 rfl) (by decide) ?_
                refine ex_iload_n ok_X12_clear (mi 105 rfl) rfl ?_
                refine ex_iconst ok_X12_clear (mi 106 rfl) ?_
                refine mf_B J92 ok_X12_clear (mi 107 rfl) (fk (MI_s J92) 37 rfl) (fn (MI_s J92) 37 rfl) rfl (by omega) (by decide) (B := 300) (by decide) (by decide) (by decide) (pk_in 0 300 (by decide)) (fun g94 J95 K96 => ?_)
                refine ex_aload_n ok_X12_clear (mi 108 rfl) rfl ?_
                refine ex_getRx ok_X12_clear (mi 109 rfl) rfl rfl (fk (MI_s J95) 0 rfl) (fr (MI_s J95) 38 rfl) (fk (MI_s J95) 39 rfl) (by decide) ?_
                refine ex_iload_n ok_X12_clear (mi 110 rfl) rfl ?_
                refine ex_iconst ok_X12_clear (mi 111 rfl) ?_
                refine mf_A J95 ok_X12_clear (mi 112 rfl) (fk (MI_s J95) 39 rfl) (fn (MI_s J95) 39 rfl) rfl (by omega) (by decide) (by decide) (by decide) (by decide) (fun g97 J98 K99 => ?_)
                refine ex_aload_n ok_X12_clear (mi 113 rfl) rfl ?_
                refine ex_getRx ok_X12_clear (mi 114 rfl) rfl rfl (fk (MI_s J98) 0 rfl) (fr (MI_s J98) 39 rfl) (fk (MI_s J98) 40 rfl) (by decide) ?_
                refine ex_iload_n ok_X12_clear (mi 115 rfl) rfl ?_
                refine ex_iconst ok_X12_clear (mi 116 rfl) ?_
                refine mf_A J98 ok_X12_clear (mi 117 rfl) (fk (MI_s J98) 40 rfl) (fn (MI_s J98) 40 rfl) rfl (by omega) (by decide) (by decide) (by decide) (by decide) (fun g100 J101 K102 => ?_)
                refine ex_aload_n ok_X12_clear (mi 118 rfl) rfl ?_
                refine ex_getRx ok_X12_clear (mi 119 rfl) rfl rfl (fk (MI_s J101) 0 rfl) (fr (MI_s J101) 40 rfl) (fk (MI_s J101) 41 rfl) (by decide) ?_
                refine ex_iload_n ok_X12_clear (mi 120 rfl) rfl ?_
                refine ex_iconst ok_X12_clear (mi 121 rfl) ?_
                refine mf_B J101 ok_X12_clear (mi 122 rfl) (fk (MI_s J101) 41 rfl) (fn (MI_s J101) 41 rfl) rfl (by omega) (by decide) (B := 512) (by decide) (by decide) (by decide) (pk_in 0 512 (by decide)) (fun g103 J104 K105 => ?_)
                refine ex_aload_n ok_X12_clear (mi 123 rfl) rfl ?_
                refine ex_getRx ok_X12_clear (mi 124 rfl) rfl rfl (fk (MI_s J104) 0 rfl) (fr (MI_s J104) 41 rfl) (fk (MI_s J104) 42 rfl) (by decide) ?_
                refine ex_iload_n ok_X12_clear (mi 125 rfl) rfl ?_
                refine ex_iconst ok_X12_clear (mi 126 rfl) ?_
                refine mf_B J104 ok_X12_clear (mi 127 rfl) (fk (MI_s J104) 42 rfl) (fn (MI_s J104) 42 rfl) rfl (by omega) (by decide) (B := 512) (by decide) (by decide) (by decide) (pk_in 0 512 (by decide)) (fun g106 J107 K108 => ?_)
                refine ex_iincx (w := (nI (k108 + 1))) ok_X12_clear (mi 128 rfl) rfl (nI_1 _) ?_
                refine ex_goto (tgt := 108) ok_X12_clear (mi 129 rfl) rfl ?_
                exact ex_ls (ls' := [(0, .ref y), (1, .int (nI (k108 + 1)))]) ⟨rfl, rfl, trivial⟩ (ih108 (k108 + 1) (by omega) g106 J107 )
          · skip
            have l121 : k108 < 3 := Nat.lt_of_not_le (fun q => h121 (nI_le (a := 3) q (by omega)))
            refine ex_iconst ok_X12_clear (mi 79 rfl) ?_
            refine ex_goto (tgt := 129) ok_X12_clear (mi 80 rfl) rfl ?_
            refine mf_A J4 ok_X12_clear (mi 82 rfl) (fk (MI_s J4) 34 rfl) (fn (MI_s J4) 34 rfl) rfl (by omega) (by decide) (by decide) (by decide) (by decide) (fun g109 J110 K111 => ?_)
            refine ex_aload_n ok_X12_clear (mi 83 rfl) rfl ?_
            refine ex_getRx ok_X12_clear (mi 84 rfl) rfl rfl (fk (MI_s J110) 0 rfl) (fr (MI_s J110) 34 rfl) (fk (MI_s J110) 35 rfl) (by decide) ?_
            refine ex_iload_n ok_X12_clear (mi 85 rfl) rfl ?_
            refine ex_iload_n ok_X12_clear (mi 86 rfl) rfl ?_
            refine ex_iconst ok_X12_clear (mi 87 rfl) ?_
            refine ex_icmp_ge (tgt := 144) ok_X12_clear (mi 88 rfl) rfl (fun h137 => ?_) (fun h137 => ?_)
            · skip
              refine ex_iconst ok_X12_clear (mi 91 rfl) ?_
              refine mf_A J110 ok_X12_clear (mi 92 rfl) (fk (MI_s J110) 35 rfl) (fn (MI_s J110) 35 rfl) rfl (by omega) (by decide) (by decide) (by decide) (by decide) (fun g112 J113 K114 => ?_)
              refine ex_aload_n ok_X12_clear (mi 93 rfl) rfl ?_
              refine ex_getRx ok_X12_clear (mi 94 rfl) rfl rfl (fk (MI_s J113) 0 rfl) (fr (MI_s J113) 35 rfl) (fk (MI_s J113) 36 rfl) (by decide) ?_
              refine ex_iload_n ok_X12_clear (mi 95 rfl) rfl ?_
              refine ex_iload_n ok_X12_clear (mi 96 rfl) rfl ?_
              refine ex_iconst ok_X12_clear (mi 97 rfl) ?_
              refine ex_icmp_ge (tgt := 161) ok_X12_clear (mi 98 rfl) rfl (fun h153 => ?_) (fun h153 => ?_)
              · skip
                refine ex_iconst ok_X12_clear (mi 101 rfl) ?_
                refine mf_B J113 ok_X12_clear (mi 102 rfl) (fk (MI_s J113) 36 rfl) (fn (MI_s J113) 36 rfl) rfl (by omega) (by decide) (B := 512) (by decide) (by decide) (by decide) (pk_in 0 512 (by decide)) (fun g115 J116 K117 => ?_)
                refine ex_aload_n ok_X12_clear (mi 103 rfl) rfl ?_
                refine ex_getRx ok_X12_clear (mi 104 rfl) rfl rfl (fk (MI_s J116) 0 rfl) (fr (MI_s J116) 36 rfl) (fk (MI_s J116) 37 rfl) (by decide) ?_
                refine ex_iload_n ok_X12_clear (mi 105 rfl) rfl ?_
                refine ex_iconst ok_X12_clear (mi 106 rfl) ?_
                refine mf_B J116 ok_X12_clear (mi 107 rfl) (fk (MI_s J116) 37 rfl) (fn (MI_s J116) 37 rfl) rfl (by omega) (by decide) (B := 300) (by decide) (by decide) (by decide) (pk_in 0 300 (by decide)) (fun g118 J119 K120 => ?_)
                refine ex_aload_n ok_X12_clear (mi 108 rfl) rfl ?_
                refine ex_getRx ok_X12_clear (mi 109 rfl) rfl rfl (fk (MI_s J119) 0 rfl) (fr (MI_s J119) 38 rfl) (fk (MI_s J119) 39 rfl) (by decide) ?_
                refine ex_iload_n ok_X12_clear (mi 110 rfl) rfl ?_
                refine ex_iconst ok_X12_clear (mi 111 rfl) ?_
                refine mf_A J119 ok_X12_clear (mi 112 rfl) (fk (MI_s J119) 39 rfl) (fn (MI_s J119) 39 rfl) rfl (by omega) (by decide) (by decide) (by decide) (by decide) (fun g121 J122 K123 => ?_)
                refine ex_aload_n ok_X12_clear (mi 113 rfl) rfl ?_
                refine ex_getRx ok_X12_clear (mi 114 rfl) rfl rfl (fk (MI_s J122) 0 rfl) (fr (MI_s J122) 39 rfl) (fk (MI_s J122) 40 rfl) (by decide) ?_
                refine ex_iload_n ok_X12_clear (mi 115 rfl) rfl ?_
                refine ex_iconst ok_X12_clear (mi 116 rfl) ?_
                refine mf_A J122 ok_X12_clear (mi 117 rfl) (fk (MI_s J122) 40 rfl) (fn (MI_s J122) 40 rfl) rfl (by omega) (by decide) (by decide) (by decide) (by decide) (fun g124 J125 K126 => ?_)
                refine ex_aload_n ok_X12_clear (mi 118 rfl) rfl ?_
                refine ex_getRx ok_X12_clear (mi 119 rfl) rfl rfl (fk (MI_s J125) 0 rfl) (fr (MI_s J125) 40 rfl) (fk (MI_s J125) 41 rfl) (by decide) ?_
                refine ex_iload_n ok_X12_clear (mi 120 rfl) rfl ?_
                refine ex_iconst ok_X12_clear (mi 121 rfl) ?_
                refine mf_B J125 ok_X12_clear (mi 122 rfl) (fk (MI_s J125) 41 rfl) (fn (MI_s J125) 41 rfl) rfl (by omega) (by decide) (B := 512) (by decide) (by decide) (by decide) (pk_in 0 512 (by decide)) (fun g127 J128 K129 => ?_)
                refine ex_aload_n ok_X12_clear (mi 123 rfl) rfl ?_
                refine ex_getRx ok_X12_clear (mi 124 rfl) rfl rfl (fk (MI_s J128) 0 rfl) (fr (MI_s J128) 41 rfl) (fk (MI_s J128) 42 rfl) (by decide) ?_
                refine ex_iload_n ok_X12_clear (mi 125 rfl) rfl ?_
                refine ex_iconst ok_X12_clear (mi 126 rfl) ?_
                refine mf_B J128 ok_X12_clear (mi 127 rfl) (fk (MI_s J128) 42 rfl) (fn (MI_s J128) 42 rfl) rfl (by omega) (by decide) (B := 512) (by decide) (by decide) (by decide) (pk_in 0 512 (by decide)) (fun g130 J131 K132 => ?_)
                refine ex_iincx (w := (nI (k108 + 1))) ok_X12_clear (mi 128 rfl) rfl (nI_1 _) ?_
                refine ex_goto (tgt := 108) ok_X12_clear (mi 129 rfl) rfl ?_
                exact ex_ls (ls' := [(0, .ref y), (1, .int (nI (k108 + 1)))]) ⟨rfl, rfl, trivial⟩ (ih108 (k108 + 1) (by omega) g130 J131 )
              · skip
                have l153 : k108 < 3 := Nat.lt_of_not_le (fun q => h153 (nI_le (a := 3) q (by omega)))
                refine ex_bipush ok_X12_clear (mi 99 rfl) ?_
                refine ex_goto (tgt := 162) ok_X12_clear (mi 100 rfl) rfl ?_
                refine mf_B J113 ok_X12_clear (mi 102 rfl) (fk (MI_s J113) 36 rfl) (fn (MI_s J113) 36 rfl) rfl (by omega) (by decide) (B := 512) (by decide) (by decide) (by decide) (pk_in 7 512 (by decide)) (fun g133 J134 K135 => ?_)
                refine ex_aload_n ok_X12_clear (mi 103 rfl) rfl ?_
                refine ex_getRx ok_X12_clear (mi 104 rfl) rfl rfl (fk (MI_s J134) 0 rfl) (fr (MI_s J134) 36 rfl) (fk (MI_s J134) 37 rfl) (by decide) ?_
                refine ex_iload_n ok_X12_clear (mi 105 rfl) rfl ?_
                refine ex_iconst ok_X12_clear (mi 106 rfl) ?_
                refine mf_B J134 ok_X12_clear (mi 107 rfl) (fk (MI_s J134) 37 rfl) (fn (MI_s J134) 37 rfl) rfl (by omega) (by decide) (B := 300) (by decide) (by decide) (by decide) (pk_in 0 300 (by decide)) (fun g136 J137 K138 => ?_)
                refine ex_aload_n ok_X12_clear (mi 108 rfl) rfl ?_
                refine ex_getRx ok_X12_clear (mi 109 rfl) rfl rfl (fk (MI_s J137) 0 rfl) (fr (MI_s J137) 38 rfl) (fk (MI_s J137) 39 rfl) (by decide) ?_
                refine ex_iload_n ok_X12_clear (mi 110 rfl) rfl ?_
                refine ex_iconst ok_X12_clear (mi 111 rfl) ?_
                refine mf_A J137 ok_X12_clear (mi 112 rfl) (fk (MI_s J137) 39 rfl) (fn (MI_s J137) 39 rfl) rfl (by omega) (by decide) (by decide) (by decide) (by decide) (fun g139 J140 K141 => ?_)
                refine ex_aload_n ok_X12_clear (mi 113 rfl) rfl ?_
                refine ex_getRx ok_X12_clear (mi 114 rfl) rfl rfl (fk (MI_s J140) 0 rfl) (fr (MI_s J140) 39 rfl) (fk (MI_s J140) 40 rfl) (by decide) ?_
                refine ex_iload_n ok_X12_clear (mi 115 rfl) rfl ?_
                refine ex_iconst ok_X12_clear (mi 116 rfl) ?_
                refine mf_A J140 ok_X12_clear (mi 117 rfl) (fk (MI_s J140) 40 rfl) (fn (MI_s J140) 40 rfl) rfl (by omega) (by decide) (by decide) (by decide) (by decide) (fun g142 J143 K144 => ?_)
                refine ex_aload_n ok_X12_clear (mi 118 rfl) rfl ?_
                refine ex_getRx ok_X12_clear (mi 119 rfl) rfl rfl (fk (MI_s J143) 0 rfl) (fr (MI_s J143) 40 rfl) (fk (MI_s J143) 41 rfl) (by decide) ?_
                refine ex_iload_n ok_X12_clear (mi 120 rfl) rfl ?_
                refine ex_iconst ok_X12_clear (mi 121 rfl) ?_
                refine mf_B J143 ok_X12_clear (mi 122 rfl) (fk (MI_s J143) 41 rfl) (fn (MI_s J143) 41 rfl) rfl (by omega) (by decide) (B := 512) (by decide) (by decide) (by decide) (pk_in 0 512 (by decide)) (fun g145 J146 K147 => ?_)
                refine ex_aload_n ok_X12_clear (mi 123 rfl) rfl ?_
                refine ex_getRx ok_X12_clear (mi 124 rfl) rfl rfl (fk (MI_s J146) 0 rfl) (fr (MI_s J146) 41 rfl) (fk (MI_s J146) 42 rfl) (by decide) ?_
                refine ex_iload_n ok_X12_clear (mi 125 rfl) rfl ?_
                refine ex_iconst ok_X12_clear (mi 126 rfl) ?_
                refine mf_B J146 ok_X12_clear (mi 127 rfl) (fk (MI_s J146) 42 rfl) (fn (MI_s J146) 42 rfl) rfl (by omega) (by decide) (B := 512) (by decide) (by decide) (by decide) (pk_in 0 512 (by decide)) (fun g148 J149 K150 => ?_)
                refine ex_iincx (w := (nI (k108 + 1))) ok_X12_clear (mi 128 rfl) rfl (nI_1 _) ?_
                refine ex_goto (tgt := 108) ok_X12_clear (mi 129 rfl) rfl ?_
                exact ex_ls (ls' := [(0, .ref y), (1, .int (nI (k108 + 1)))]) ⟨rfl, rfl, trivial⟩ (ih108 (k108 + 1) (by omega) g148 J149 )
            · skip
              have l137 : k108 < 3 := Nat.lt_of_not_le (fun q => h137 (nI_le (a := 3) q (by omega)))
              refine ex_iconst ok_X12_clear (mi 89 rfl) ?_
              refine ex_goto (tgt := 145) ok_X12_clear (mi 90 rfl) rfl ?_
              refine mf_A J110 ok_X12_clear (mi 92 rfl) (fk (MI_s J110) 35 rfl) (fn (MI_s J110) 35 rfl) rfl (by omega) (by decide) (by decide) (by decide) (by decide) (fun g151 J152 K153 => ?_)
              refine ex_aload_n ok_X12_clear (mi 93 rfl) rfl ?_
              refine ex_getRx ok_X12_clear (mi 94 rfl) rfl rfl (fk (MI_s J152) 0 rfl) (fr (MI_s J152) 35 rfl) (fk (MI_s J152) 36 rfl) (by decide) ?_
              refine ex_iload_n ok_X12_clear (mi 95 rfl) rfl ?_
              refine ex_iload_n ok_X12_clear (mi 96 rfl) rfl ?_
              refine ex_iconst ok_X12_clear (mi 97 rfl) ?_
              refine ex_icmp_ge (tgt := 161) ok_X12_clear (mi 98 rfl) rfl (fun h153 => ?_) (fun h153 => ?_)
              · skip
                refine ex_iconst ok_X12_clear (mi 101 rfl) ?_
                refine mf_B J152 ok_X12_clear (mi 102 rfl) (fk (MI_s J152) 36 rfl) (fn (MI_s J152) 36 rfl) rfl (by omega) (by decide) (B := 512) (by decide) (by decide) (by decide) (pk_in 0 512 (by decide)) (fun g154 J155 K156 => ?_)
                refine ex_aload_n ok_X12_clear (mi 103 rfl) rfl ?_
                refine ex_getRx ok_X12_clear (mi 104 rfl) rfl rfl (fk (MI_s J155) 0 rfl) (fr (MI_s J155) 36 rfl) (fk (MI_s J155) 37 rfl) (by decide) ?_
                refine ex_iload_n ok_X12_clear (mi 105 rfl) rfl ?_
                refine ex_iconst ok_X12_clear (mi 106 rfl) ?_
                refine mf_B J155 ok_X12_clear (mi 107 rfl) (fk (MI_s J155) 37 rfl) (fn (MI_s J155) 37 rfl) rfl (by omega) (by decide) (B := 300) (by decide) (by decide) (by decide) (pk_in 0 300 (by decide)) (fun g157 J158 K159 => ?_)
                refine ex_aload_n ok_X12_clear (mi 108 rfl) rfl ?_
                refine ex_getRx ok_X12_clear (mi 109 rfl) rfl rfl (fk (MI_s J158) 0 rfl) (fr (MI_s J158) 38 rfl) (fk (MI_s J158) 39 rfl) (by decide) ?_
                refine ex_iload_n ok_X12_clear (mi 110 rfl) rfl ?_
                refine ex_iconst ok_X12_clear (mi 111 rfl) ?_
                refine mf_A J158 ok_X12_clear (mi 112 rfl) (fk (MI_s J158) 39 rfl) (fn (MI_s J158) 39 rfl) rfl (by omega) (by decide) (by decide) (by decide) (by decide) (fun g160 J161 K162 => ?_)
                refine ex_aload_n ok_X12_clear (mi 113 rfl) rfl ?_
                refine ex_getRx ok_X12_clear (mi 114 rfl) rfl rfl (fk (MI_s J161) 0 rfl) (fr (MI_s J161) 39 rfl) (fk (MI_s J161) 40 rfl) (by decide) ?_
                refine ex_iload_n ok_X12_clear (mi 115 rfl) rfl ?_
                refine ex_iconst ok_X12_clear (mi 116 rfl) ?_
                refine mf_A J161 ok_X12_clear (mi 117 rfl) (fk (MI_s J161) 40 rfl) (fn (MI_s J161) 40 rfl) rfl (by omega) (by decide) (by decide) (by decide) (by decide) (fun g163 J164 K165 => ?_)
                refine ex_aload_n ok_X12_clear (mi 118 rfl) rfl ?_
                refine ex_getRx ok_X12_clear (mi 119 rfl) rfl rfl (fk (MI_s J164) 0 rfl) (fr (MI_s J164) 40 rfl) (fk (MI_s J164) 41 rfl) (by decide) ?_
                refine ex_iload_n ok_X12_clear (mi 120 rfl) rfl ?_
                refine ex_iconst ok_X12_clear (mi 121 rfl) ?_
                refine mf_B J164 ok_X12_clear (mi 122 rfl) (fk (MI_s J164) 41 rfl) (fn (MI_s J164) 41 rfl) rfl (by omega) (by decide) (B := 512) (by decide) (by decide) (by decide) (pk_in 0 512 (by decide)) (fun g166 J167 K168 => ?_)
                refine ex_aload_n ok_X12_clear (mi 123 rfl) rfl ?_
                refine ex_getRx ok_X12_clear (mi 124 rfl) rfl rfl (fk (MI_s J167) 0 rfl) (fr (MI_s J167) 41 rfl) (fk (MI_s J167) 42 rfl) (by decide) ?_
                refine ex_iload_n ok_X12_clear (mi 125 rfl) rfl ?_
                refine ex_iconst ok_X12_clear (mi 126 rfl) ?_
                refine mf_B J167 ok_X12_clear (mi 127 rfl) (fk (MI_s J167) 42 rfl) (fn (MI_s J167) 42 rfl) rfl (by omega) (by decide) (B := 512) (by decide) (by decide) (by decide) (pk_in 0 512 (by decide)) (fun g169 J170 K171 => ?_)
                refine ex_iincx (w := (nI (k108 + 1))) ok_X12_clear (mi 128 rfl) rfl (nI_1 _) ?_
                refine ex_goto (tgt := 108) ok_X12_clear (mi 129 rfl) rfl ?_
                exact ex_ls (ls' := [(0, .ref y), (1, .int (nI (k108 + 1)))]) ⟨rfl, rfl, trivial⟩ (ih108 (k108 + 1) (by omega) g169 J170 )
              · skip
                have l153 : k108 < 3 := Nat.lt_of_not_le (fun q => h153 (nI_le (a := 3) q (by omega)))
                refine ex_bipush ok_X12_clear (mi 99 rfl) ?_
                refine ex_goto (tgt := 162) ok_X12_clear (mi 100 rfl) rfl ?_
                refine mf_B J152 ok_X12_clear (mi 102 rfl) (fk (MI_s J152) 36 rfl) (fn (MI_s J152) 36 rfl) rfl (by omega) (by decide) (B := 512) (by decide) (by decide) (by decide) (pk_in 7 512 (by decide)) (fun g172 J173 K174 => ?_)
                refine ex_aload_n ok_X12_clear (mi 103 rfl) rfl ?_
                refine ex_getRx ok_X12_clear (mi 104 rfl) rfl rfl (fk (MI_s J173) 0 rfl) (fr (MI_s J173) 36 rfl) (fk (MI_s J173) 37 rfl) (by decide) ?_
                refine ex_iload_n ok_X12_clear (mi 105 rfl) rfl ?_
                refine ex_iconst ok_X12_clear (mi 106 rfl) ?_
                refine mf_B J173 ok_X12_clear (mi 107 rfl) (fk (MI_s J173) 37 rfl) (fn (MI_s J173) 37 rfl) rfl (by omega) (by decide) (B := 300) (by decide) (by decide) (by decide) (pk_in 0 300 (by decide)) (fun g175 J176 K177 => ?_)
                refine ex_aload_n ok_X12_clear (mi 108 rfl) rfl ?_
                refine ex_getRx ok_X12_clear (mi 109 rfl) rfl rfl (fk (MI_s J176) 0 rfl) (fr (MI_s J176) 38 rfl) (fk (MI_s J176) 39 rfl) (by decide) ?_
                refine ex_iload_n ok_X12_clear (mi 110 rfl) rfl ?_
                refine ex_iconst ok_X12_clear (mi 111 rfl) ?_
                refine mf_A J176 ok_X12_clear (mi 112 rfl) (fk (MI_s J176) 39 rfl) (fn (MI_s J176) 39 rfl) rfl (by omega) (by decide) (by decide) (by decide) (by decide) (fun g178 J179 K180 => ?_)
                refine ex_aload_n ok_X12_clear (mi 113 rfl) rfl ?_
                refine ex_getRx ok_X12_clear (mi 114 rfl) rfl rfl (fk (MI_s J179) 0 rfl) (fr (MI_s J179) 39 rfl) (fk (MI_s J179) 40 rfl) (by decide) ?_
                refine ex_iload_n ok_X12_clear (mi 115 rfl) rfl ?_
                refine ex_iconst ok_X12_clear (mi 116 rfl) ?_
                refine mf_A J179 ok_X12_clear (mi 117 rfl) (fk (MI_s J179) 40 rfl) (fn (MI_s J179) 40 rfl) rfl (by omega) (by decide) (by decide) (by decide) (by decide) (fun g181 J182 K183 => ?_)
                refine ex_aload_n ok_X12_clear (mi 118 rfl) rfl ?_
                refine ex_getRx ok_X12_clear (mi 119 rfl) rfl rfl (fk (MI_s J182) 0 rfl) (fr (MI_s J182) 40 rfl) (fk (MI_s J182) 41 rfl) (by decide) ?_
                refine ex_iload_n ok_X12_clear (mi 120 rfl) rfl ?_
                refine ex_iconst ok_X12_clear (mi 121 rfl) ?_
                refine mf_B J182 ok_X12_clear (mi 122 rfl) (fk (MI_s J182) 41 rfl) (fn (MI_s J182) 41 rfl) rfl (by omega) (by decide) (B := 512) (by decide) (by decide) (by decide) (pk_in 0 512 (by decide)) (fun g184 J185 K186 => ?_)
                refine ex_aload_n ok_X12_clear (mi 123 rfl) rfl ?_
                refine ex_getRx ok_X12_clear (mi 124 rfl) rfl rfl (fk (MI_s J185) 0 rfl) (fr (MI_s J185) 41 rfl) (fk (MI_s J185) 42 rfl) (by decide) ?_
                refine ex_iload_n ok_X12_clear (mi 125 rfl) rfl ?_
                refine ex_iconst ok_X12_clear (mi 126 rfl) ?_
                refine mf_B J185 ok_X12_clear (mi 127 rfl) (fk (MI_s J185) 42 rfl) (fn (MI_s J185) 42 rfl) rfl (by omega) (by decide) (B := 512) (by decide) (by decide) (by decide) (pk_in 0 512 (by decide)) (fun g187 J188 K189 => ?_)
                refine ex_iincx (w := (nI (k108 + 1))) ok_X12_clear (mi 128 rfl) rfl (nI_1 _) ?_
                refine ex_goto (tgt := 108) ok_X12_clear (mi 129 rfl) rfl ?_
                exact ex_ls (ls' := [(0, .ref y), (1, .int (nI (k108 + 1)))]) ⟨rfl, rfl, trivial⟩ (ih108 (k108 + 1) (by omega) g187 J188 )
      exact ex_ls (ls' := [(0, .ref y), (1, .int (nI 0))]) ⟨rfl, rfl, trivial⟩ (lp108 (9 - 0) (0) (by omega) g1 J2 )
    | succ n28 ih28 =>
      intro k28 he28  g1 J2 
      have hr28 : k28 < 3 := by omega
      refine ex_iload_n ok_X12_clear (mi 17 rfl) rfl ?_
      refine ex_iconst ok_X12_clear (mi 18 rfl) ?_
      refine ex_icmp_ge (tgt := 106) ok_X12_clear (mi 19 rfl) rfl (fun hn => absurd hn (nI_ge (b := 3) hr28 (by decide))) (fun _ => ?_)
      refine ex_aload_n ok_X12_clear (mi 20 rfl) rfl ?_
      refine ex_getRx ok_X12_clear (mi 21 rfl) rfl rfl (fk (MI_s J2) 0 rfl) (fr (MI_s J2) 1 rfl) (fk (MI_s J2) 2 rfl) (by decide) ?_
      refine ex_iload_n ok_X12_clear (mi 22 rfl) rfl ?_
      refine ex_iconst ok_X12_clear (mi 23 rfl) ?_
      refine sm_iast ok_X12_clear (mi 24 rfl) (fk (MI_s J2) 2 rfl) (fn (MI_s J2) 2 rfl) rfl (by omega) (by decide) ?_
      have S190 : sh T12 (px_A g1 (y + 2) (k28) (Int32.ofInt (0))) y := shq (sqA sq0) (MI_s J2)
      refine ex_aload_n ok_X12_clear (mi 25 rfl) rfl ?_
      refine ex_getRx ok_X12_clear (mi 26 rfl) rfl rfl (fk S190 0 rfl) (fr S190 2 rfl) (fk S190 3 rfl) (by decide) ?_
      refine ex_iload_n ok_X12_clear (mi 27 rfl) rfl ?_
      refine ex_iconst ok_X12_clear (mi 28 rfl) ?_
      refine sm_iast ok_X12_clear (mi 29 rfl) (fk S190 3 rfl) (fn S190 3 rfl) rfl (by omega) (by decide) ?_
      have J191 := MI_two (l := k28) (v := Int32.ofInt (0)) (w := (Int32.ofInt (-1))) J2 (Or.inr ⟨by decide, hR⟩)
      revert J191
      generalize px_A (px_A g1 (y + 2) (k28) (Int32.ofInt (0))) (y + 3) (k28) (Int32.ofInt (-1)) = g192
      intro J191
      refine ex_aload_n ok_X12_clear (mi 30 rfl) rfl ?_
      refine ex_getRx ok_X12_clear (mi 31 rfl) rfl rfl (fk (MI_s J191) 0 rfl) (fr (MI_s J191) 3 rfl) (fk (MI_s J191) 4 rfl) (by decide) ?_
      refine ex_iload_n ok_X12_clear (mi 32 rfl) rfl ?_
      refine ex_iconst ok_X12_clear (mi 33 rfl) ?_
      refine mf_A J191 ok_X12_clear (mi 34 rfl) (fk (MI_s J191) 4 rfl) (fn (MI_s J191) 4 rfl) rfl (by omega) (by decide) (by decide) (by decide) (by decide) (fun g193 J194 K195 => ?_)
      refine ex_aload_n ok_X12_clear (mi 35 rfl) rfl ?_
      refine ex_getRx ok_X12_clear (mi 36 rfl) rfl rfl (fk (MI_s J194) 0 rfl) (fr (MI_s J194) 4 rfl) (fk (MI_s J194) 5 rfl) (by decide) ?_
      refine ex_iload_n ok_X12_clear (mi 37 rfl) rfl ?_
      refine ex_iconst ok_X12_clear (mi 38 rfl) ?_
      refine mf_A J194 ok_X12_clear (mi 39 rfl) (fk (MI_s J194) 5 rfl) (fn (MI_s J194) 5 rfl) rfl (by omega) (by decide) (by decide) (by decide) (by decide) (fun g196 J197 K198 => ?_)
      refine ex_aload_n ok_X12_clear (mi 40 rfl) rfl ?_
      refine ex_getRx ok_X12_clear (mi 41 rfl) rfl rfl (fk (MI_s J197) 0 rfl) (fr (MI_s J197) 5 rfl) (fk (MI_s J197) 6 rfl) (by decide) ?_
      refine ex_iload_n ok_X12_clear (mi 42 rfl) rfl ?_
      refine ex_bipush ok_X12_clear (mi 43 rfl) ?_
      refine mf_B J197 ok_X12_clear (mi 44 rfl) (fk (MI_s J197) 6 rfl) (fn (MI_s J197) 6 rfl) rfl (by omega) (by decide) (B := 512) (by decide) (by decide) (by decide) (pk_in 7 512 (by decide)) (fun g199 J200 K201 => ?_)
      refine ex_aload_n ok_X12_clear (mi 45 rfl) rfl ?_
      refine ex_iload_n ok_X12_clear (mi 46 rfl) rfl ?_
      refine sm_V (As := [_]) ok_X12_clear (mi 47 rfl) rfl (s_X12_forgetRounds hst J200 (by omega)) rfl (fk (MI_s J200) 0 rfl) rfl rfl (by decide) (by decide) (Nat.le_of_ble_eq_true rfl) (by decide) SM_no (fun z202 g204 p203 => ?_)
      obtain ⟨u206, eu206, u206p, J205⟩ := p203
      cases eu206
      obtain rfl : z202 = none := u206p
      refine ex_aload_n ok_X12_clear (mi 48 rfl) rfl ?_
      refine ex_getRx ok_X12_clear (mi 49 rfl) rfl rfl (fk (MI_s J205) 0 rfl) (fr (MI_s J205) 25 rfl) (fk (MI_s J205) 26 rfl) (by decide) ?_
      refine ex_iload_n ok_X12_clear (mi 50 rfl) rfl ?_
      refine ex_iconst ok_X12_clear (mi 51 rfl) ?_
      refine mf_A J205 ok_X12_clear (mi 52 rfl) (fk (MI_s J205) 26 rfl) (fn (MI_s J205) 26 rfl) rfl (by omega) (by decide) (by decide) (by decide) (by decide) (fun g207 J208 K209 => ?_)
      refine ex_aload_n ok_X12_clear (mi 53 rfl) rfl ?_
      refine ex_getRx ok_X12_clear (mi 54 rfl) rfl rfl (fk (MI_s J208) 0 rfl) (fr (MI_s J208) 26 rfl) (fk (MI_s J208) 27 rfl) (by decide) ?_
      refine ex_iload_n ok_X12_clear (mi 55 rfl) rfl ?_
      refine ex_iconst ok_X12_clear (mi 56 rfl) ?_
      refine mf_B J208 ok_X12_clear (mi 57 rfl) (fk (MI_s J208) 27 rfl) (fn (MI_s J208) 27 rfl) rfl (by omega) (by decide) (B := 512) (by decide) (by decide) (by decide) (pk_in 0 512 (by decide)) (fun g210 J211 K212 => ?_)
      refine ex_aload_n ok_X12_clear (mi 58 rfl) rfl ?_
      refine ex_getRx ok_X12_clear (mi 59 rfl) rfl rfl (fk (MI_s J211) 0 rfl) (fr (MI_s J211) 27 rfl) (fk (MI_s J211) 28 rfl) (by decide) ?_
      refine ex_iload_n ok_X12_clear (mi 60 rfl) rfl ?_
      refine ex_iconst ok_X12_clear (mi 61 rfl) ?_
      refine mf_A J211 ok_X12_clear (mi 62 rfl) (fk (MI_s J211) 28 rfl) (fn (MI_s J211) 28 rfl) rfl (by omega) (by decide) (by decide) (by decide) (by decide) (fun g213 J214 K215 => ?_)
      refine ex_aload_n ok_X12_clear (mi 63 rfl) rfl ?_
      refine ex_iload_n ok_X12_clear (mi 64 rfl) rfl ?_
      refine sm_V (As := [_]) ok_X12_clear (mi 65 rfl) rfl (s_X12_forgetReform hst J214 (by omega)) rfl (fk (MI_s J214) 0 rfl) rfl rfl (by decide) (by decide) (Nat.le_of_ble_eq_true rfl) (by decide) SM_no (fun z216 g218 p217 => ?_)
      obtain ⟨u220, eu220, u220p, J219⟩ := p217
      cases eu220
      obtain rfl : z216 = none := u220p
      refine ex_iincx (w := (nI (k28 + 1))) ok_X12_clear (mi 66 rfl) rfl (nI_1 _) ?_
      refine ex_goto (tgt := 28) ok_X12_clear (mi 67 rfl) rfl ?_
      exact ex_ls (ls' := [(0, .ref y), (1, .int (nI (k28 + 1)))]) ⟨rfl, rfl, trivial⟩ (ih28 (k28 + 1) (by omega) g218 J219 )
  exact ex_ls (ls' := [(0, .ref y), (1, .int (nI 0))]) ⟨rfl, rfl, trivial⟩ (lp28 (3 - 0) (0) (by omega) g I )
theorem clear_d {G : GE} {y c : Nat} {D : UT} {R : Nat → Prop} {g : GT} (I : MI y D c R g) : ex_W G 3 0 0 M_X12_clear 324 [(0, .ref y)] [] g (SM y D c R pN) := by
  refine ex_iconst ok_X12_clear (mi 198 rfl) ?_
  refine ex_istore_n ok_X12_clear (mi 199 rfl) ?_
  have lp326 : ∀ n326 k326 : Nat, k326 + n326 = 300 → ∀ (g1 : GT), MI y D c R g1 → ex_W G 3 0 0 M_X12_clear 326 [(0, .ref y), (1, .int (nI (k326)))] [] g1 (SM y D c R pN) := by
    intro n326
    induction n326 with
    | zero =>
      intro k326 he326  g1 J2 
      obtain rfl : k326 = 300 := by omega
      refine ex_iload_n ok_X12_clear (mi 200 rfl) rfl ?_
      refine ex_sipush ok_X12_clear (mi 201 rfl) ?_
      refine ex_icmp_ge (tgt := 346) ok_X12_clear (mi 202 rfl) rfl (fun _ => ?_) (fun hn => absurd (by decide) hn)
      refine ex_iconst ok_X12_clear (mi 210 rfl) ?_
      refine ex_istore_n ok_X12_clear (mi 211 rfl) ?_
      have lp348 : ∀ n348 k348 : Nat, k348 + n348 = 4800 → ∀ (g3 : GT), MI y D c R g3 → ex_W G 3 0 0 M_X12_clear 348 [(0, .ref y), (1, .int (nI (k348)))] [] g3 (SM y D c R pN) := by
        intro n348
        induction n348 with
        | zero =>
          intro k348 he348  g3 J4 
          obtain rfl : k348 = 4800 := by omega
          refine ex_iload_n ok_X12_clear (mi 212 rfl) rfl ?_
          refine ex_sipush ok_X12_clear (mi 213 rfl) ?_
          refine ex_icmp_ge (tgt := 368) ok_X12_clear (mi 214 rfl) rfl (fun _ => ?_) (fun hn => absurd (by decide) hn)
          refine ex_iconst ok_X12_clear (mi 222 rfl) ?_
          refine ex_istore_n ok_X12_clear (mi 223 rfl) ?_
          have lp370 : ∀ n370 k370 : Nat, k370 + n370 = 16 → ∀ (g5 : GT), MI y D c R g5 → ex_W G 3 0 0 M_X12_clear 370 [(0, .ref y), (1, .int (nI (k370)))] [] g5 (SM y D c R pN) := by
            intro n370
            induction n370 with
            | zero =>
              intro k370 he370  g5 J6 
              obtain rfl : k370 = 16 := by omega
              refine ex_iload_n ok_X12_clear (mi 224 rfl) rfl ?_
              refine ex_bipush ok_X12_clear (mi 225 rfl) ?_
              refine ex_icmp_ge (tgt := 389) ok_X12_clear (mi 226 rfl) rfl (fun _ => ?_) (fun hn => absurd (by decide) hn)
              refine ex_aload_n ok_X12_clear (mi 234 rfl) rfl ?_
              refine ex_iconst ok_X12_clear (mi 235 rfl) ?_
              refine mf_putI J6 ok_X12_clear (mi 236 rfl) rfl rfl (fk (MI_s J6) 0 rfl) (by decide) (by decide) (fun g7 J8 K9 => ?_)
              refine ex_aload_n ok_X12_clear (mi 237 rfl) rfl ?_
              refine ex_iconst ok_X12_clear (mi 238 rfl) ?_
              refine mf_putI J8 ok_X12_clear (mi 239 rfl) rfl rfl (fk (MI_s J8) 0 rfl) (by decide) (by decide) (fun g10 J11 K12 => ?_)
              refine ex_aload_n ok_X12_clear (mi 240 rfl) rfl ?_
              refine ex_iconst ok_X12_clear (mi 241 rfl) ?_
              refine mf_putI J11 ok_X12_clear (mi 242 rfl) rfl rfl (fk (MI_s J11) 0 rfl) (by decide) (by decide) (fun g13 J14 K15 => ?_)
              refine ex_aload_n ok_X12_clear (mi 243 rfl) rfl ?_
              refine ex_iconst ok_X12_clear (mi 244 rfl) ?_
              refine mf_putI J14 ok_X12_clear (mi 245 rfl) rfl rfl (fk (MI_s J14) 0 rfl) (by decide) (by decide) (fun g16 J17 K18 => ?_)
              refine ex_aload_n ok_X12_clear (mi 246 rfl) rfl ?_
              refine ex_iconst ok_X12_clear (mi 247 rfl) ?_
              refine mf_putI J17 ok_X12_clear (mi 248 rfl) rfl rfl (fk (MI_s J17) 0 rfl) (by decide) (by decide) (fun g19 J20 K21 => ?_)
              refine ex_vret ok_X12_clear (mi 249 rfl) rfl ?_
              exact ⟨_, rfl, rfl, J20⟩
            | succ n370 ih370 =>
              intro k370 he370  g5 J6 
              have hr370 : k370 < 16 := by omega
              refine ex_iload_n ok_X12_clear (mi 224 rfl) rfl ?_
              refine ex_bipush ok_X12_clear (mi 225 rfl) ?_
              refine ex_icmp_ge (tgt := 389) ok_X12_clear (mi 226 rfl) rfl (fun hn => absurd hn (nI_ge (b := 16) hr370 (by decide))) (fun _ => ?_)
              refine ex_aload_n ok_X12_clear (mi 227 rfl) rfl ?_
              refine ex_getRx ok_X12_clear (mi 228 rfl) rfl rfl (fk (MI_s J6) 0 rfl) (fr (MI_s J6) 58 rfl) (fk (MI_s J6) 59 rfl) (by decide) ?_
              refine ex_iload_n ok_X12_clear (mi 229 rfl) rfl ?_
              refine ex_iconst ok_X12_clear (mi 230 rfl) ?_
              refine mf_A J6 ok_X12_clear (mi 231 rfl) (fk (MI_s J6) 59 rfl) (fn (MI_s J6) 59 rfl) rfl (by omega) (by decide) (by decide) (by decide) (by decide) (fun g22 J23 K24 => ?_)
              refine ex_iincx (w := (nI (k370 + 1))) ok_X12_clear (mi 232 rfl) rfl (nI_1 _) ?_
              refine ex_goto (tgt := 370) ok_X12_clear (mi 233 rfl) rfl ?_
              exact ex_ls (ls' := [(0, .ref y), (1, .int (nI (k370 + 1)))]) ⟨rfl, rfl, trivial⟩ (ih370 (k370 + 1) (by omega) g22 J23 )
          exact ex_ls (ls' := [(0, .ref y), (1, .int (nI 0))]) ⟨rfl, rfl, trivial⟩ (lp370 (16 - 0) (0) (by omega) g3 J4 )
        | succ n348 ih348 =>
          intro k348 he348  g3 J4 
          have hr348 : k348 < 4800 := by omega
          refine ex_iload_n ok_X12_clear (mi 212 rfl) rfl ?_
          refine ex_sipush ok_X12_clear (mi 213 rfl) ?_
          refine ex_icmp_ge (tgt := 368) ok_X12_clear (mi 214 rfl) rfl (fun hn => absurd hn (nI_ge (b := 4800) hr348 (by decide))) (fun _ => ?_)
          refine ex_aload_n ok_X12_clear (mi 215 rfl) rfl ?_
          refine ex_getRx ok_X12_clear (mi 216 rfl) rfl rfl (fk (MI_s J4) 0 rfl) (fr (MI_s J4) 57 rfl) (fk (MI_s J4) 58 rfl) (by decide) ?_
          refine ex_iload_n ok_X12_clear (mi 217 rfl) rfl ?_
          refine ex_iconst ok_X12_clear (mi 218 rfl) ?_
          refine mf_A J4 ok_X12_clear (mi 219 rfl) (fk (MI_s J4) 58 rfl) (fn (MI_s J4) 58 rfl) rfl (by omega) (by decide) (by decide) (by decide) (by decide) (fun g25 J26 K27 => ?_)
          refine ex_iincx (w := (nI (k348 + 1))) ok_X12_clear (mi 220 rfl) rfl (nI_1 _) ?_
          refine ex_goto (tgt := 348) ok_X12_clear (mi 221 rfl) rfl ?_
          exact ex_ls (ls' := [(0, .ref y), (1, .int (nI (k348 + 1)))]) ⟨rfl, rfl, trivial⟩ (ih348 (k348 + 1) (by omega) g25 J26 )
      exact ex_ls (ls' := [(0, .ref y), (1, .int (nI 0))]) ⟨rfl, rfl, trivial⟩ (lp348 (4800 - 0) (0) (by omega) g1 J2 )
    | succ n326 ih326 =>
      intro k326 he326  g1 J2 
      have hr326 : k326 < 300 := by omega
      refine ex_iload_n ok_X12_clear (mi 200 rfl) rfl ?_
      refine ex_sipush ok_X12_clear (mi 201 rfl) ?_
      refine ex_icmp_ge (tgt := 346) ok_X12_clear (mi 202 rfl) rfl (fun hn => absurd hn (nI_ge (b := 300) hr326 (by decide))) (fun _ => ?_)
      refine ex_aload_n ok_X12_clear (mi 203 rfl) rfl ?_
      refine ex_getRx ok_X12_clear (mi 204 rfl) rfl rfl (fk (MI_s J2) 0 rfl) (fr (MI_s J2) 56 rfl) (fk (MI_s J2) 57 rfl) (by decide) ?_
      refine ex_iload_n ok_X12_clear (mi 205 rfl) rfl ?_
      refine ex_iconst ok_X12_clear (mi 206 rfl) ?_
      refine mf_A J2 ok_X12_clear (mi 207 rfl) (fk (MI_s J2) 57 rfl) (fn (MI_s J2) 57 rfl) rfl (by omega) (by decide) (by decide) (by decide) (by decide) (fun g28 J29 K30 => ?_)
      refine ex_iincx (w := (nI (k326 + 1))) ok_X12_clear (mi 208 rfl) rfl (nI_1 _) ?_
      refine ex_goto (tgt := 326) ok_X12_clear (mi 209 rfl) rfl ?_
      exact ex_ls (ls' := [(0, .ref y), (1, .int (nI (k326 + 1)))]) ⟨rfl, rfl, trivial⟩ (ih326 (k326 + 1) (by omega) g28 J29 )
  exact ex_ls (ls' := [(0, .ref y), (1, .int (nI 0))]) ⟨rfl, rfl, trivial⟩ (lp326 (300 - 0) (0) (by omega) g I )
theorem clear_c {G : GE} {y c : Nat} {D : UT} {R : Nat → Prop} {g : GT} {Q : RT → GT → Prop} (I : MI y D c R g) (hq : ∀ g, MI y D c R g → ex_W G 3 0 0 M_X12_clear 324 [(0, .ref y)] [] g Q) : ex_W G 3 0 0 M_X12_clear 297 [(0, .ref y)] [] g Q := by
  obtain ⟨A, hA, ha, h0⟩ := I
  refine ex_aload_n ok_X12_clear (mi 183 rfl) rfl ?_
  refine ex_iconst ok_X12_clear (mi 184 rfl) ?_
  refine ex_putI ok_X12_clear (mi 185 rfl) rfl (fk h0.1 0 rfl) rfl ?_
  have m0 := MC_I (f := 1248) (v := Int32.ofInt 0) h0
  refine ex_iconst ok_X12_clear (mi 186 rfl) ?_
  refine ex_istore_n ok_X12_clear (mi 187 rfl) ?_
  have lp : ∀ n k : Nat, k + n = 402 → ∀ g : GT, gx_I g 1248 y = nI 0 → (∀ j, j < k → gx_A g (y + 49) j = 0) → MC y D (fun j => j = c) (fun _ => False) R (fun p => p < A) g → ex_W G 3 0 0 M_X12_clear 304 [(0, .ref y), (1, .int (nI k))] [] g Q := by
    intro n
    induction n with
    | zero =>
      intro k hk g ha hz h
      obtain rfl : k = 402 := by omega
      refine ex_iload_n ok_X12_clear (mi 188 rfl) rfl ?_
      refine ex_sipush ok_X12_clear (mi 189 rfl) ?_
      refine ex_icmp_ge (tgt := 324) ok_X12_clear (mi 190 rfl) rfl (fun _ => ?_) (fun hn => absurd (by decide) hn)
      exact ex_ls (ls' := [(0, .ref y)]) ⟨rfl, trivial⟩ (hq g ⟨0, by omega, ha, MC_w h (fun j hj hu _ => absurd (hz j hj) hu) (fun _ _ _ k => k.elim) (fun _ _ k => Or.inr k)⟩)
    | succ n ih =>
      intro k hk g ha hz h
      have S := h.1
      refine ex_iload_n ok_X12_clear (mi 188 rfl) rfl ?_
      refine ex_sipush ok_X12_clear (mi 189 rfl) ?_
      refine ex_icmp_ge (tgt := 324) ok_X12_clear (mi 190 rfl) rfl (fun hn => absurd hn (nI_ge (b := 402) (by omega) (by decide))) (fun _ => ?_)
      refine ex_aload_n ok_X12_clear (mi 191 rfl) rfl ?_
      refine ex_getRx ok_X12_clear (mi 192 rfl) rfl rfl (fk S 0 rfl) (fr S 48 rfl) (fk S 49 rfl) (by decide) ?_
      refine ex_iload_n ok_X12_clear (mi 193 rfl) rfl ?_
      refine ex_iconst ok_X12_clear (mi 194 rfl) ?_
      refine sm_bast ok_X12_clear (mi 195 rfl) (fk S 49 rfl) (fn S 49 rfl) rfl (by omega) (by decide) (Or.inl (by decide)) ?_
      refine ex_iincx (w := nI (k + 1)) ok_X12_clear (mi 196 rfl) rfl (nI_1 k) ?_
      refine ex_goto (tgt := 304) ok_X12_clear (mi 197 rfl) rfl ?_
      refine ex_ls (ls' := [(0, .ref y), (1, .int (nI (k + 1)))]) ⟨rfl, rfl, trivial⟩ (ih (k + 1) (by omega) _ ha (fun j hj => ?_) (MC_w (MC_u (i := k) (v := Int32.ofInt 0) h) (fun _ _ _ q => q.imp (fun q => q.elim (fun q => q.2) (fun q => absurd (by decide) q.2)) id) (fun _ _ _ k => k.elim) (fun _ _ k => Or.inr k)))
      by_cases e : j = k
      · rw [e, pxA_e]; decide
      · rw [pxA_i e]; exact hz j (by omega)
  exact ex_ls (ls' := [(0, .ref y), (1, .int (nI 0))]) ⟨rfl, rfl, trivial⟩ (lp 402 0 (by omega) _ (by rw [gxI_I, if_pos ⟨rfl, rfl⟩]; decide) (fun _ h => absurd h (Nat.not_lt_zero _)) m0)
theorem s_X12_clear {G : GE} (hst : (ge_l G).stackTraces = false) {y c : Nat} {D : UT} {R : Nat → Prop} {g : GT} (hR : ∀ l, ¬ R l) (I : MI y D c R g) : ex_M G 3 0 0 my_X12_clear [.ref y] g (SM y (fun _ => 0, D.2) c R pN) := by
  refine ex_M_of ok_X12_clear cw_X12_clear rfl hst (Nat.le_of_ble_eq_true rfl) ?_
  refine ex_aload_n ok_X12_clear (mi 0 rfl) rfl ?_
  refine ex_iconst ok_X12_clear (mi 1 rfl) ?_
  refine mf_putI I ok_X12_clear (mi 2 rfl) rfl rfl (fk (MI_s I) 0 rfl) (by decide) (by decide) (fun g1 I1 _ => ?_)
  refine ex_iconst ok_X12_clear (mi 3 rfl) ?_
  refine ex_istore_n ok_X12_clear (mi 4 rfl) ?_
  have lp : ∀ n k : Nat, k + n = 27 → ∀ g : GT, MI y (fun i => if i < k then 0 else D.1 i, D.2) c R g → ex_W G 3 0 0 M_X12_clear 7 [(0, .ref y), (1, .int (nI k))] [] g (SM y (fun _ => 0, D.2) c R pN) := by
    intro n
    induction n with
    | zero =>
      intro k hk g I
      obtain rfl : k = 27 := by omega
      refine ex_iload_n ok_X12_clear (mi 5 rfl) rfl ?_
      refine ex_bipush ok_X12_clear (mi 6 rfl) ?_
      refine ex_icmp_ge (tgt := 26) ok_X12_clear (mi 7 rfl) rfl (fun _ => ?_) (fun hn => absurd (by decide) hn)
      have I2 : MI y (fun _ => 0, D.2) c R g := MI_D I (fun i hi => if_pos hi) rfl
      exact ex_ls (ls' := [(0, .ref y)]) ⟨rfl, trivial⟩ (clear_b hst hR I2 (fun g I => clear_c I (fun g I => clear_d I)))
    | succ n ih =>
      intro k hk g I
      have S := MI_s I
      refine ex_iload_n ok_X12_clear (mi 5 rfl) rfl ?_
      refine ex_bipush ok_X12_clear (mi 6 rfl) ?_
      refine ex_icmp_ge (tgt := 26) ok_X12_clear (mi 7 rfl) rfl (fun hn => absurd hn (nI_ge (b := 27) (by omega) (by decide))) (fun _ => ?_)
      refine ex_aload_n ok_X12_clear (mi 8 rfl) rfl ?_
      refine ex_getRx ok_X12_clear (mi 9 rfl) rfl rfl (fk S 0 rfl) (fr S 0 rfl) (fk S 1 rfl) (by decide) ?_
      refine ex_iload_n ok_X12_clear (mi 10 rfl) rfl ?_
      refine ex_iconst ok_X12_clear (mi 11 rfl) ?_
      refine sm_bast ok_X12_clear (mi 12 rfl) (fk S 1 rfl) (fn S 1 rfl) rfl (by omega) (by decide) (Or.inl (by decide)) ?_
      refine ex_iincx (w := nI (k + 1)) ok_X12_clear (mi 13 rfl) rfl (nI_1 k) ?_
      refine ex_goto (tgt := 7) ok_X12_clear (mi 14 rfl) rfl ?_
      refine ex_ls (ls' := [(0, .ref y), (1, .int (nI (k + 1)))]) ⟨rfl, rfl, trivial⟩ (ih (k + 1) (by omega) _ (MI_D (MI_dn (i := k) (v := Int32.ofInt 0) I) (fun i hi => ?_) rfl))
      show (if i = k then Int32.ofInt 0 else if i < k then 0 else D.1 i) = if i < k + 1 then 0 else D.1 i
      by_cases e : i = k
      · rw [if_pos e, if_pos (by omega)]; decide
      · by_cases e2 : i < k
        · rw [if_neg e, if_pos e2, if_pos (by omega)]
        · rw [if_neg e, if_neg e2, if_neg (by omega)]
  exact ex_ls (ls' := [(0, .ref y), (1, .int (nI 0))]) ⟨rfl, rfl, trivial⟩ (lp 27 0 (by omega) _ (MI_D (D' := (fun i => if i < 0 then 0 else D.1 i, D.2)) I1 (fun i _ => (by
    show D.1 i = if i < 0 then 0 else D.1 i
    rw [if_neg (Nat.not_lt_zero i)])) rfl))
theorem s_X12_thrown {G : GE} (hst : (ge_l G).stackTraces = false) {x : Nat} {h : GT} {v : Int32} (hk : gx_K h x = 13) (hv : gx_I h 1200 x = v) : ex_M G 1 0 0 my_X12_thrown [.ref x] h (rv (some (.int v)) h) := by
  refine ex_M_of ok_X12_thrown cw_X12_thrown rfl hst (Nat.le_of_ble_eq_true rfl) ?_
  refine ex_aload_n ok_X12_thrown (mi 0 rfl) rfl ?_
  refine ex_getIx ok_X12_thrown (mi 1 rfl) rfl rfl hk hv ?_
  refine ex_iret ok_X12_thrown (mi 2 rfl) rfl ?_
  exact ⟨rfl, rfl⟩
