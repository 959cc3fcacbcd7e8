/-! ===== rows of rounds; the air ===== -/
theorem s_J6_bitCount_0f7a4 {G : GE} (hst : (ge_l G).stackTraces = false) {x : Nat} {U : UT} {g : GT} (I : INV x U g) {p0 : Int32} : ex_M G 1 0 0 my_J6_bitCount_0f7a4 [.int p0] g (SVp g pI) := by
  refine ex_M_of ok_J6_bitCount_0f7a4 cw_J6_bitCount_0f7a4 rfl hst (Nat.le_of_ble_eq_true rfl) ?_
  refine ex_iload_n ok_J6_bitCount_0f7a4 (mi 0 rfl) rfl ?_
  refine ex_iload_n ok_J6_bitCount_0f7a4 (mi 1 rfl) rfl ?_
  refine ex_iconst ok_J6_bitCount_0f7a4 (mi 2 rfl) ?_
  refine ex_iushr ok_J6_bitCount_0f7a4 (mi 3 rfl) ?_
  refine ex_gen (fun w1 => ?_)
  refine ex_ldcw ok_J6_bitCount_0f7a4 (mi 4 rfl) rfl ?_
  refine ex_iand ok_J6_bitCount_0f7a4 (mi 5 rfl) ?_
  refine ex_gen (fun w2 => ?_)
  refine ex_isub ok_J6_bitCount_0f7a4 (mi 6 rfl) ?_
  refine ex_gen (fun w3 => ?_)
  refine ex_istore_n ok_J6_bitCount_0f7a4 (mi 7 rfl) ?_
  refine ex_iload_n ok_J6_bitCount_0f7a4 (mi 8 rfl) rfl ?_
  refine ex_ldcw ok_J6_bitCount_0f7a4 (mi 9 rfl) rfl ?_
  refine ex_iand ok_J6_bitCount_0f7a4 (mi 10 rfl) ?_
  refine ex_gen (fun w4 => ?_)
  refine ex_iload_n ok_J6_bitCount_0f7a4 (mi 11 rfl) rfl ?_
  refine ex_iconst ok_J6_bitCount_0f7a4 (mi 12 rfl) ?_
  refine ex_iushr ok_J6_bitCount_0f7a4 (mi 13 rfl) ?_
  refine ex_gen (fun w5 => ?_)
  refine ex_ldcw ok_J6_bitCount_0f7a4 (mi 14 rfl) rfl ?_
  refine ex_iand ok_J6_bitCount_0f7a4 (mi 15 rfl) ?_
  refine ex_gen (fun w6 => ?_)
  refine ex_iadd ok_J6_bitCount_0f7a4 (mi 16 rfl) ?_
  refine ex_gen (fun w7 => ?_)
  refine ex_istore_n ok_J6_bitCount_0f7a4 (mi 17 rfl) ?_
  refine ex_iload_n ok_J6_bitCount_0f7a4 (mi 18 rfl) rfl ?_
  refine ex_iload_n ok_J6_bitCount_0f7a4 (mi 19 rfl) rfl ?_
  refine ex_iconst ok_J6_bitCount_0f7a4 (mi 20 rfl) ?_
  refine ex_iushr ok_J6_bitCount_0f7a4 (mi 21 rfl) ?_
  refine ex_gen (fun w8 => ?_)
  refine ex_iadd ok_J6_bitCount_0f7a4 (mi 22 rfl) ?_
  refine ex_gen (fun w9 => ?_)
  refine ex_ldcw ok_J6_bitCount_0f7a4 (mi 23 rfl) rfl ?_
  refine ex_iand ok_J6_bitCount_0f7a4 (mi 24 rfl) ?_
  refine ex_gen (fun w10 => ?_)
  refine ex_istore_n ok_J6_bitCount_0f7a4 (mi 25 rfl) ?_
  refine ex_iload_n ok_J6_bitCount_0f7a4 (mi 26 rfl) rfl ?_
  refine ex_iload_n ok_J6_bitCount_0f7a4 (mi 27 rfl) rfl ?_
  refine ex_bipush ok_J6_bitCount_0f7a4 (mi 28 rfl) ?_
  refine ex_iushr ok_J6_bitCount_0f7a4 (mi 29 rfl) ?_
  refine ex_gen (fun w11 => ?_)
  refine ex_iadd ok_J6_bitCount_0f7a4 (mi 30 rfl) ?_
  refine ex_gen (fun w12 => ?_)
  refine ex_istore_n ok_J6_bitCount_0f7a4 (mi 31 rfl) ?_
  refine ex_iload_n ok_J6_bitCount_0f7a4 (mi 32 rfl) rfl ?_
  refine ex_iload_n ok_J6_bitCount_0f7a4 (mi 33 rfl) rfl ?_
  refine ex_bipush ok_J6_bitCount_0f7a4 (mi 34 rfl) ?_
  refine ex_iushr ok_J6_bitCount_0f7a4 (mi 35 rfl) ?_
  refine ex_gen (fun w13 => ?_)
  refine ex_iadd ok_J6_bitCount_0f7a4 (mi 36 rfl) ?_
  refine ex_gen (fun w14 => ?_)
  refine ex_istore_n ok_J6_bitCount_0f7a4 (mi 37 rfl) ?_
  refine ex_iload_n ok_J6_bitCount_0f7a4 (mi 38 rfl) rfl ?_
  refine ex_bipush ok_J6_bitCount_0f7a4 (mi 39 rfl) ?_
  refine ex_iand ok_J6_bitCount_0f7a4 (mi 40 rfl) ?_
  refine ex_gen (fun w15 => ?_)
  refine ex_iret ok_J6_bitCount_0f7a4 (mi 41 rfl) rfl ?_
  exact ⟨_, rfl, ⟨_, rfl⟩, rfl⟩
theorem s_J6_numberOfLeadingZeros_0f7a4 {G : GE} (hst : (ge_l G).stackTraces = false) {x : Nat} {U : UT} {g : GT} (I : INV x U g) {p0 : Int32} : ex_M G 1 0 0 my_J6_numberOfLeadingZeros_0f7a4 [.int p0] g (SVp g pI) := by
  refine ex_M_of ok_J6_numberOfLeadingZeros_0f7a4 cw_J6_numberOfLeadingZeros_0f7a4 rfl hst (Nat.le_of_ble_eq_true rfl) ?_
  refine ex_iload_n ok_J6_numberOfLeadingZeros_0f7a4 (mi 0 rfl) rfl ?_
  refine ex_if_gt (tgt := 15) ok_J6_numberOfLeadingZeros_0f7a4 (mi 1 rfl) rfl (fun h1 => ?_) (fun h1 => ?_)
  · skip
    refine ex_bipush ok_J6_numberOfLeadingZeros_0f7a4 (mi 8 rfl) ?_
    refine ex_istore_n ok_J6_numberOfLeadingZeros_0f7a4 (mi 9 rfl) ?_
    refine ex_iload_n ok_J6_numberOfLeadingZeros_0f7a4 (mi 10 rfl) rfl ?_
    refine ex_ldcw ok_J6_numberOfLeadingZeros_0f7a4 (mi 11 rfl) rfl ?_
    refine ex_icmp_lt (tgt := 33) ok_J6_numberOfLeadingZeros_0f7a4 (mi 12 rfl) rfl (fun h22 => ?_) (fun h22 => ?_)
    · skip
      refine ex_iload_n ok_J6_numberOfLeadingZeros_0f7a4 (mi 18 rfl) rfl ?_
      refine ex_sipush ok_J6_numberOfLeadingZeros_0f7a4 (mi 19 rfl) ?_
      refine ex_icmp_lt (tgt := 48) ok_J6_numberOfLeadingZeros_0f7a4 (mi 20 rfl) rfl (fun h37 => ?_) (fun h37 => ?_)
      · skip
        refine ex_iload_n ok_J6_numberOfLeadingZeros_0f7a4 (mi 26 rfl) rfl ?_
        refine ex_bipush ok_J6_numberOfLeadingZeros_0f7a4 (mi 27 rfl) ?_
        refine ex_icmp_lt (tgt := 61) ok_J6_numberOfLeadingZeros_0f7a4 (mi 28 rfl) rfl (fun h51 => ?_) (fun h51 => ?_)
        · skip
          refine ex_iload_n ok_J6_numberOfLeadingZeros_0f7a4 (mi 34 rfl) rfl ?_
          refine ex_iconst ok_J6_numberOfLeadingZeros_0f7a4 (mi 35 rfl) ?_
          refine ex_icmp_lt (tgt := 73) ok_J6_numberOfLeadingZeros_0f7a4 (mi 36 rfl) rfl (fun h63 => ?_) (fun h63 => ?_)
          · skip
            refine ex_iload_n ok_J6_numberOfLeadingZeros_0f7a4 (mi 42 rfl) rfl ?_
            refine ex_iload_n ok_J6_numberOfLeadingZeros_0f7a4 (mi 43 rfl) rfl ?_
            refine ex_iconst ok_J6_numberOfLeadingZeros_0f7a4 (mi 44 rfl) ?_
            refine ex_iushr ok_J6_numberOfLeadingZeros_0f7a4 (mi 45 rfl) ?_
            refine ex_gen (fun w1 => ?_)
            refine ex_isub ok_J6_numberOfLeadingZeros_0f7a4 (mi 46 rfl) ?_
            refine ex_gen (fun w2 => ?_)
            refine ex_iret ok_J6_numberOfLeadingZeros_0f7a4 (mi 47 rfl) rfl ?_
            exact ⟨_, rfl, ⟨_, rfl⟩, rfl⟩
          · skip
            refine ex_iincx (w := (nI 29)) ok_J6_numberOfLeadingZeros_0f7a4 (mi 37 rfl) rfl (by decide) ?_
            refine ex_iload_n ok_J6_numberOfLeadingZeros_0f7a4 (mi 38 rfl) rfl ?_
            refine ex_iconst ok_J6_numberOfLeadingZeros_0f7a4 (mi 39 rfl) ?_
            refine ex_iushr ok_J6_numberOfLeadingZeros_0f7a4 (mi 40 rfl) ?_
            refine ex_gen (fun w3 => ?_)
            refine ex_istore_n ok_J6_numberOfLeadingZeros_0f7a4 (mi 41 rfl) ?_
            refine ex_iload_n ok_J6_numberOfLeadingZeros_0f7a4 (mi 42 rfl) rfl ?_
            refine ex_iload_n ok_J6_numberOfLeadingZeros_0f7a4 (mi 43 rfl) rfl ?_
            refine ex_iconst ok_J6_numberOfLeadingZeros_0f7a4 (mi 44 rfl) ?_
            refine ex_iushr ok_J6_numberOfLeadingZeros_0f7a4 (mi 45 rfl) ?_
            refine ex_gen (fun w4 => ?_)
            refine ex_isub ok_J6_numberOfLeadingZeros_0f7a4 (mi 46 rfl) ?_
            refine ex_gen (fun w5 => ?_)
            refine ex_iret ok_J6_numberOfLeadingZeros_0f7a4 (mi 47 rfl) rfl ?_
            exact ⟨_, rfl, ⟨_, rfl⟩, rfl⟩
        · skip
          refine ex_iincx (w := (nI 27)) ok_J6_numberOfLeadingZeros_0f7a4 (mi 29 rfl) rfl (by decide) ?_
          refine ex_iload_n ok_J6_numberOfLeadingZeros_0f7a4 (mi 30 rfl) rfl ?_
          refine ex_iconst ok_J6_numberOfLeadingZeros_0f7a4 (mi 31 rfl) ?_
          refine ex_iushr ok_J6_numberOfLeadingZeros_0f7a4 (mi 32 rfl) ?_
          refine ex_gen (fun w6 => ?_)
          refine ex_istore_n ok_J6_numberOfLeadingZeros_0f7a4 (mi 33 rfl) ?_
          refine ex_iload_n ok_J6_numberOfLeadingZeros_0f7a4 (mi 34 rfl) rfl ?_
          refine ex_iconst ok_J6_numberOfLeadingZeros_0f7a4 (mi 35 rfl) ?_
          refine ex_icmp_lt (tgt := 73) ok_J6_numberOfLeadingZeros_0f7a4 (mi 36 rfl) rfl (fun h63 => ?_) (fun h63 => ?_)
          · skip
            refine ex_iload_n ok_J6_numberOfLeadingZeros_0f7a4 (mi 42 rfl) rfl ?_
            refine ex_iload_n ok_J6_numberOfLeadingZeros_0f7a4 (mi 43 rfl) rfl ?_
            refine ex_iconst ok_J6_numberOfLeadingZeros_0f7a4 (mi 44 rfl) ?_
            refine ex_iushr ok_J6_numberOfLeadingZeros_0f7a4 (mi 45 rfl) ?_
            refine ex_gen (fun w7 => ?_)
            refine ex_isub ok_J6_numberOfLeadingZeros_0f7a4 (mi 46 rfl) ?_
            refine ex_gen (fun w8 => ?_)
            refine ex_iret ok_J6_numberOfLeadingZeros_0f7a4 (mi 47 rfl) rfl ?_
            exact ⟨_, rfl, ⟨_, rfl⟩, rfl⟩
          · skip
            refine ex_iincx (w := (nI 25)) ok_J6_numberOfLeadingZeros_0f7a4 (mi 37 rfl) rfl (by decide) ?_
            refine ex_iload_n ok_J6_numberOfLeadingZeros_0f7a4 (mi 38 rfl) rfl ?_
            refine ex_iconst ok_J6_numberOfLeadingZeros_0f7a4 (mi 39 rfl) ?_
            refine ex_iushr ok_J6_numberOfLeadingZeros_0f7a4 (mi 40 rfl) ?_
            refine ex_gen (fun w9 => ?_)
            refine ex_istore_n ok_J6_numberOfLeadingZeros_0f7a4 (mi 41 rfl) ?_
            refine ex_iload_n ok_J6_numberOfLeadingZeros_0f7a4 (mi 42 rfl) rfl ?_
            refine ex_iload_n ok_J6_numberOfLeadingZeros_0f7a4 (mi 43 rfl) rfl ?_
            refine ex_iconst ok_J6_numberOfLeadingZeros_0f7a4 (mi 44 rfl) ?_
            refine ex_iushr ok_J6_numberOfLeadingZeros_0f7a4 (mi 45 rfl) ?_
            refine ex_gen (fun w10 => ?_)
            refine ex_isub ok_J6_numberOfLeadingZeros_0f7a4 (mi 46 rfl) ?_
            refine ex_gen (fun w11 => ?_)
            refine ex_iret ok_J6_numberOfLeadingZeros_0f7a4 (mi 47 rfl) rfl ?_
            exact ⟨_, rfl, ⟨_, rfl⟩, rfl⟩
      · skip
        refine ex_iincx (w := (nI 23)) ok_J6_numberOfLeadingZeros_0f7a4 (mi 21 rfl) rfl (by decide) ?_
        refine ex_iload_n ok_J6_numberOfLeadingZeros_0f7a4 (mi 22 rfl) rfl ?_
        refine ex_bipush ok_J6_numberOfLeadingZeros_0f7a4 (mi 23 rfl) ?_
        refine ex_iushr ok_J6_numberOfLeadingZeros_0f7a4 (mi 24 rfl) ?_
        refine ex_gen (fun w12 => ?_)
        refine ex_istore_n ok_J6_numberOfLeadingZeros_0f7a4 (mi 25 rfl) ?_
        refine ex_iload_n ok_J6_numberOfLeadingZeros_0f7a4 (mi 26 rfl) rfl ?_
        refine ex_bipush ok_J6_numberOfLeadingZeros_0f7a4 (mi 27 rfl) ?_
        refine ex_icmp_lt (tgt := 61) ok_J6_numberOfLeadingZeros_0f7a4 (mi 28 rfl) rfl (fun h51 => ?_) (fun h51 => ?_)
        · skip
          refine ex_iload_n ok_J6_numberOfLeadingZeros_0f7a4 (mi 34 rfl) rfl ?_
          refine ex_iconst ok_J6_numberOfLeadingZeros_0f7a4 (mi 35 rfl) ?_
          refine ex_icmp_lt (tgt := 73) ok_J6_numberOfLeadingZeros_0f7a4 (mi 36 rfl) rfl (fun h63 => ?_) (fun h63 => ?_)
          · skip
            refine ex_iload_n ok_J6_numberOfLeadingZeros_0f7a4 (mi 42 rfl) rfl ?_
            refine ex_iload_n ok_J6_numberOfLeadingZeros_0f7a4 (mi 43 rfl) rfl ?_
            refine ex_iconst ok_J6_numberOfLeadingZeros_0f7a4 (mi 44 rfl) ?_
            refine ex_iushr ok_J6_numberOfLeadingZeros_0f7a4 (mi 45 rfl) ?_
            refine ex_gen (fun w13 => ?_)
            refine ex_isub ok_J6_numberOfLeadingZeros_0f7a4 (mi 46 rfl) ?_
            refine ex_gen (fun w14 => ?_)
            refine ex_iret ok_J6_numberOfLeadingZeros_0f7a4 (mi 47 rfl) rfl ?_
            exact ⟨_, rfl, ⟨_, rfl⟩, rfl⟩
          · skip
            refine ex_iincx (w := (nI 21)) ok_J6_numberOfLeadingZeros_0f7a4 (mi 37 rfl) rfl (by decide) ?_
            refine ex_iload_n ok_J6_numberOfLeadingZeros_0f7a4 (mi 38 rfl) rfl ?_
            refine ex_iconst ok_J6_numberOfLeadingZeros_0f7a4 (mi 39 rfl) ?_
            refine ex_iushr ok_J6_numberOfLeadingZeros_0f7a4 (mi 40 rfl) ?_
            refine ex_gen (fun w15 => ?_)
            refine ex_istore_n ok_J6_numberOfLeadingZeros_0f7a4 (mi 41 rfl) ?_
            refine ex_iload_n ok_J6_numberOfLeadingZeros_0f7a4 (mi 42 rfl) rfl ?_
            refine ex_iload_n ok_J6_numberOfLeadingZeros_0f7a4 (mi 43 rfl) rfl ?_
            refine ex_iconst ok_J6_numberOfLeadingZeros_0f7a4 (mi 44 rfl) ?_
            refine ex_iushr ok_J6_numberOfLeadingZeros_0f7a4 (mi 45 rfl) ?_
            refine ex_gen (fun w16 => ?_)
            refine ex_isub ok_J6_numberOfLeadingZeros_0f7a4 (mi 46 rfl) ?_
            refine ex_gen (fun w17 => ?_)
            refine ex_iret ok_J6_numberOfLeadingZeros_0f7a4 (mi 47 rfl) rfl ?_
            exact ⟨_, rfl, ⟨_, rfl⟩, rfl⟩
        · skip
          refine ex_iincx (w := (nI 19)) ok_J6_numberOfLeadingZeros_0f7a4 (mi 29 rfl) rfl (by decide) ?_
          refine ex_iload_n ok_J6_numberOfLeadingZeros_0f7a4 (mi 30 rfl) rfl ?_
          refine ex_iconst ok_J6_numberOfLeadingZeros_0f7a4 (mi 31 rfl) ?_
          refine ex_iushr ok_J6_numberOfLeadingZeros_0f7a4 (mi 32 rfl) ?_
          refine ex_gen (fun w18 => ?_)
          refine ex_istore_n ok_J6_numberOfLeadingZeros_0f7a4 (mi 33 rfl) ?_
          refine ex_iload_n ok_J6_numberOfLeadingZeros_0f7a4 (mi 34 rfl) rfl ?_
          refine ex_iconst ok_J6_numberOfLeadingZeros_0f7a4 (mi 35 rfl) ?_
          refine ex_icmp_lt (tgt := 73) ok_J6_numberOfLeadingZeros_0f7a4 (mi 36 rfl) rfl (fun h63 => ?_) (fun h63 => ?_)
          · skip
            refine ex_iload_n ok_J6_numberOfLeadingZeros_0f7a4 (mi 42 rfl) rfl ?_
            refine ex_iload_n ok_J6_numberOfLeadingZeros_0f7a4 (mi 43 rfl) rfl ?_
            refine ex_iconst ok_J6_numberOfLeadingZeros_0f7a4 (mi 44 rfl) ?_
            refine ex_iushr ok_J6_numberOfLeadingZeros_0f7a4 (mi 45 rfl) ?_
            refine ex_gen (fun w19 => ?_)
            refine ex_isub ok_J6_numberOfLeadingZeros_0f7a4 (mi 46 rfl) ?_
            refine ex_gen (fun w20 => ?_)
            refine ex_iret ok_J6_numberOfLeadingZeros_0f7a4 (mi 47 rfl) rfl ?_
            exact ⟨_, rfl, ⟨_, rfl⟩, rfl⟩
          · skip
            refine ex_iincx (w := (nI 17)) ok_J6_numberOfLeadingZeros_0f7a4 (mi 37 rfl) rfl (by decide) ?_
            refine ex_iload_n ok_J6_numberOfLeadingZeros_0f7a4 (mi 38 rfl) rfl ?_
            refine ex_iconst ok_J6_numberOfLeadingZeros_0f7a4 (mi 39 rfl) ?_
            refine ex_iushr ok_J6_numberOfLeadingZeros_0f7a4 (mi 40 rfl) ?_
            refine ex_gen (fun w21 => ?_)
            refine ex_istore_n ok_J6_numberOfLeadingZeros_0f7a4 (mi 41 rfl) ?_
            refine ex_iload_n ok_J6_numberOfLeadingZeros_0f7a4 (mi 42 rfl) rfl ?_
            refine ex_iload_n ok_J6_numberOfLeadingZeros_0f7a4 (mi 43 rfl) rfl ?_
            refine ex_iconst ok_J6_numberOfLeadingZeros_0f7a4 (mi 44 rfl) ?_
            refine ex_iushr ok_J6_numberOfLeadingZeros_0f7a4 (mi 45 rfl) ?_
            refine ex_gen (fun w22 => ?_)
            refine ex_isub ok_J6_numberOfLeadingZeros_0f7a4 (mi 46 rfl) ?_
            refine ex_gen (fun w23 => ?_)
            refine ex_iret ok_J6_numberOfLeadingZeros_0f7a4 (mi 47 rfl) rfl ?_
            exact ⟨_, rfl, ⟨_, rfl⟩, rfl⟩
    · skip
      refine ex_iincx (w := (nI 15)) ok_J6_numberOfLeadingZeros_0f7a4 (mi 13 rfl) rfl (by decide) ?_
      refine ex_iload_n ok_J6_numberOfLeadingZeros_0f7a4 (mi 14 rfl) rfl ?_
      refine ex_bipush ok_J6_numberOfLeadingZeros_0f7a4 (mi 15 rfl) ?_
      refine ex_iushr ok_J6_numberOfLeadingZeros_0f7a4 (mi 16 rfl) ?_
      refine ex_gen (fun w24 => ?_)
      refine ex_istore_n ok_J6_numberOfLeadingZeros_0f7a4 (mi 17 rfl) ?_
      refine ex_iload_n ok_J6_numberOfLeadingZeros_0f7a4 (mi 18 rfl) rfl ?_
      refine ex_sipush ok_J6_numberOfLeadingZeros_0f7a4 (mi 19 rfl) ?_
      refine ex_icmp_lt (tgt := 48) ok_J6_numberOfLeadingZeros_0f7a4 (mi 20 rfl) rfl (fun h37 => ?_) (fun h37 => ?_)
      · skip
        refine ex_iload_n ok_J6_numberOfLeadingZeros_0f7a4 (mi 26 rfl) rfl ?_
        refine ex_bipush ok_J6_numberOfLeadingZeros_0f7a4 (mi 27 rfl) ?_
        refine ex_icmp_lt (tgt := 61) ok_J6_numberOfLeadingZeros_0f7a4 (mi 28 rfl) rfl (fun h51 => ?_) (fun h51 => ?_)
        · skip
          refine ex_iload_n ok_J6_numberOfLeadingZeros_0f7a4 (mi 34 rfl) rfl ?_
          refine ex_iconst ok_J6_numberOfLeadingZeros_0f7a4 (mi 35 rfl) ?_
          refine ex_icmp_lt (tgt := 73) ok_J6_numberOfLeadingZeros_0f7a4 (mi 36 rfl) rfl (fun h63 => ?_) (fun h63 => ?_)
          · skip
            refine ex_iload_n ok_J6_numberOfLeadingZeros_0f7a4 (mi 42 rfl) rfl ?_
            refine ex_iload_n ok_J6_numberOfLeadingZeros_0f7a4 (mi 43 rfl) rfl ?_
            refine ex_iconst ok_J6_numberOfLeadingZeros_0f7a4 (mi 44 rfl) ?_
            refine ex_iushr ok_J6_numberOfLeadingZeros_0f7a4 (mi 45 rfl) ?_
            refine ex_gen (fun w25 => ?_)
            refine ex_isub ok_J6_numberOfLeadingZeros_0f7a4 (mi 46 rfl) ?_
            refine ex_gen (fun w26 => ?_)
            refine ex_iret ok_J6_numberOfLeadingZeros_0f7a4 (mi 47 rfl) rfl ?_
            exact ⟨_, rfl, ⟨_, rfl⟩, rfl⟩
          · skip
            refine ex_iincx (w := (nI 13)) ok_J6_numberOfLeadingZeros_0f7a4 (mi 37 rfl) rfl (by decide) ?_
            refine ex_iload_n ok_J6_numberOfLeadingZeros_0f7a4 (mi 38 rfl) rfl ?_
            refine ex_iconst ok_J6_numberOfLeadingZeros_0f7a4 (mi 39 rfl) ?_
            refine ex_iushr ok_J6_numberOfLeadingZeros_0f7a4 (mi 40 rfl) ?_
            refine ex_gen (fun w27 => ?_)
            refine ex_istore_n ok_J6_numberOfLeadingZeros_0f7a4 (mi 41 rfl) ?_
            refine ex_iload_n ok_J6_numberOfLeadingZeros_0f7a4 (mi 42 rfl) rfl ?_
            refine ex_iload_n ok_J6_numberOfLeadingZeros_0f7a4 (mi 43 rfl) rfl ?_
            refine ex_iconst ok_J6_numberOfLeadingZeros_0f7a4 (mi 44 rfl) ?_
            refine ex_iushr ok_J6_numberOfLeadingZeros_0f7a4 (mi 45 rfl) ?_
            refine ex_gen (fun w28 => ?_)
            refine ex_isub ok_J6_numberOfLeadingZeros_0f7a4 (mi 46 rfl) ?_
            refine ex_gen (fun w29 => ?_)
            refine ex_iret ok_J6_numberOfLeadingZeros_0f7a4 (mi 47 rfl) rfl ?_
            exact ⟨_, rfl, ⟨_, rfl⟩, rfl⟩
        · skip
          refine ex_iincx (w := (nI 11)) ok_J6_numberOfLeadingZeros_0f7a4 (mi 29 rfl) rfl (by decide) ?_
          refine ex_iload_n ok_J6_numberOfLeadingZeros_0f7a4 (mi 30 rfl) rfl ?_
          refine ex_iconst ok_J6_numberOfLeadingZeros_0f7a4 (mi 31 rfl) ?_
          refine ex_iushr ok_J6_numberOfLeadingZeros_0f7a4 (mi 32 rfl) ?_
          refine ex_gen (fun w30 => ?_)
          refine ex_istore_n ok_J6_numberOfLeadingZeros_0f7a4 (mi 33 rfl) ?_
          refine ex_iload_n ok_J6_numberOfLeadingZeros_0f7a4 (mi 34 rfl) rfl ?_
          refine ex_iconst ok_J6_numberOfLeadingZeros_0f7a4 (mi 35 rfl) ?_
          refine ex_icmp_lt (tgt := 73) ok_J6_numberOfLeadingZeros_0f7a4 (mi 36 rfl) rfl (fun h63 => ?_) (fun h63 => ?_)
          · skip
            refine ex_iload_n ok_J6_numberOfLeadingZeros_0f7a4 (mi 42 rfl) rfl ?_
            refine ex_iload_n ok_J6_numberOfLeadingZeros_0f7a4 (mi 43 rfl) rfl ?_
            refine ex_iconst ok_J6_numberOfLeadingZeros_0f7a4 (mi 44 rfl) ?_
            refine ex_iushr ok_J6_numberOfLeadingZeros_0f7a4 (mi 45 rfl) ?_
            refine ex_gen (fun w31 => ?_)
            refine ex_isub ok_J6_numberOfLeadingZeros_0f7a4 (mi 46 rfl) ?_
            refine ex_gen (fun w32 => ?_)
            refine ex_iret ok_J6_numberOfLeadingZeros_0f7a4 (mi 47 rfl) rfl ?_
            exact ⟨_, rfl, ⟨_, rfl⟩, rfl⟩
          · skip
            refine ex_iincx (w := (nI 9)) ok_J6_numberOfLeadingZeros_0f7a4 (mi 37 rfl) rfl (by decide) ?_
            refine ex_iload_n ok_J6_numberOfLeadingZeros_0f7a4 (mi 38 rfl) rfl ?_
            refine ex_iconst ok_J6_numberOfLeadingZeros_0f7a4 (mi 39 rfl) ?_
            refine ex_iushr ok_J6_numberOfLeadingZeros_0f7a4 (mi 40 rfl) ?_
            refine ex_gen (fun w33 => ?_)
            refine ex_istore_n ok_J6_numberOfLeadingZeros_0f7a4 (mi 41 rfl) ?_
            refine ex_iload_n ok_J6_numberOfLeadingZeros_0f7a4 (mi 42 rfl) rfl ?_
            refine ex_iload_n ok_J6_numberOfLeadingZeros_0f7a4 (mi 43 rfl) rfl ?_
            refine ex_iconst ok_J6_numberOfLeadingZeros_0f7a4 (mi 44 rfl) ?_
            refine ex_iushr ok_J6_numberOfLeadingZeros_0f7a4 (mi 45 rfl) ?_
            refine ex_gen (fun w34 => ?_)
            refine ex_isub ok_J6_numberOfLeadingZeros_0f7a4 (mi 46 rfl) ?_
            refine ex_gen (fun w35 => ?_)
            refine ex_iret ok_J6_numberOfLeadingZeros_0f7a4 (mi 47 rfl) rfl ?_
            exact ⟨_, rfl, ⟨_, rfl⟩, rfl⟩
      · skip
        refine ex_iincx (w := (nI 7)) ok_J6_numberOfLeadingZeros_0f7a4 (mi 21 rfl) rfl (by decide) ?_
        refine ex_iload_n ok_J6_numberOfLeadingZeros_0f7a4 (mi 22 rfl) rfl ?_
        refine ex_bipush ok_J6_numberOfLeadingZeros_0f7a4 (mi 23 rfl) ?_
        refine ex_iushr ok_J6_numberOfLeadingZeros_0f7a4 (mi 24 rfl) ?_
        refine ex_gen (fun w36 => ?_)
        refine ex_istore_n ok_J6_numberOfLeadingZeros_0f7a4 (mi 25 rfl) ?_
        refine ex_iload_n ok_J6_numberOfLeadingZeros_0f7a4 (mi 26 rfl) rfl ?_
        refine ex_bipush ok_J6_numberOfLeadingZeros_0f7a4 (mi 27 rfl) ?_
        refine ex_icmp_lt (tgt := 61) ok_J6_numberOfLeadingZeros_0f7a4 (mi 28 rfl) rfl (fun h51 => ?_) (fun h51 => ?_)
        · skip
          refine ex_iload_n ok_J6_numberOfLeadingZeros_0f7a4 (mi 34 rfl) rfl ?_
          refine ex_iconst ok_J6_numberOfLeadingZeros_0f7a4 (mi 35 rfl) ?_
          refine ex_icmp_lt (tgt := 73) ok_J6_numberOfLeadingZeros_0f7a4 (mi 36 rfl) rfl (fun h63 => ?_) (fun h63 => ?_)
          · skip
            refine ex_iload_n ok_J6_numberOfLeadingZeros_0f7a4 (mi 42 rfl) rfl ?_
            refine ex_iload_n ok_J6_numberOfLeadingZeros_0f7a4 (mi 43 rfl) rfl ?_
            refine ex_iconst ok_J6_numberOfLeadingZeros_0f7a4 (mi 44 rfl) ?_
            refine ex_iushr ok_J6_numberOfLeadingZeros_0f7a4 (mi 45 rfl) ?_
            refine ex_gen (fun w37 => ?_)
            refine ex_isub ok_J6_numberOfLeadingZeros_0f7a4 (mi 46 rfl) ?_
            refine ex_gen (fun w38 => ?_)
            refine ex_iret ok_J6_numberOfLeadingZeros_0f7a4 (mi 47 rfl) rfl ?_
            exact ⟨_, rfl, ⟨_, rfl⟩, rfl⟩
          · skip
            refine ex_iincx (w := (nI 5)) ok_J6_numberOfLeadingZeros_0f7a4 (mi 37 rfl) rfl (by decide) ?_
            refine ex_iload_n ok_J6_numberOfLeadingZeros_0f7a4 (mi 38 rfl) rfl ?_
            refine ex_iconst ok_J6_numberOfLeadingZeros_0f7a4 (mi 39 rfl) ?_
            refine ex_iushr ok_J6_numberOfLeadingZeros_0f7a4 (mi 40 rfl) ?_
            refine ex_gen (fun w39 => ?_)
            refine ex_istore_n ok_J6_numberOfLeadingZeros_0f7a4 (mi 41 rfl) ?_
            refine ex_iload_n ok_J6_numberOfLeadingZeros_0f7a4 (mi 42 rfl) rfl ?_
            refine ex_iload_n ok_J6_numberOfLeadingZeros_0f7a4 (mi 43 rfl) rfl ?_
            refine ex_iconst ok_J6_numberOfLeadingZeros_0f7a4 (mi 44 rfl) ?_
            refine ex_iushr ok_J6_numberOfLeadingZeros_0f7a4 (mi 45 rfl) ?_
            refine ex_gen (fun w40 => ?_)
            refine ex_isub ok_J6_numberOfLeadingZeros_0f7a4 (mi 46 rfl) ?_
            refine ex_gen (fun w41 => ?_)
            refine ex_iret ok_J6_numberOfLeadingZeros_0f7a4 (mi 47 rfl) rfl ?_
            exact ⟨_, rfl, ⟨_, rfl⟩, rfl⟩
        · skip
          refine ex_iincx (w := (nI 3)) ok_J6_numberOfLeadingZeros_0f7a4 (mi 29 rfl) rfl (by decide) ?_
          refine ex_iload_n ok_J6_numberOfLeadingZeros_0f7a4 (mi 30 rfl) rfl ?_
          refine ex_iconst ok_J6_numberOfLeadingZeros_0f7a4 (mi 31 rfl) ?_
          refine ex_iushr ok_J6_numberOfLeadingZeros_0f7a4 (mi 32 rfl) ?_
          refine ex_gen (fun w42 => ?_)
          refine ex_istore_n ok_J6_numberOfLeadingZeros_0f7a4 (mi 33 rfl) ?_
          refine ex_iload_n ok_J6_numberOfLeadingZeros_0f7a4 (mi 34 rfl) rfl ?_
          refine ex_iconst ok_J6_numberOfLeadingZeros_0f7a4 (mi 35 rfl) ?_
          refine ex_icmp_lt (tgt := 73) ok_J6_numberOfLeadingZeros_0f7a4 (mi 36 rfl) rfl (fun h63 => ?_) (fun h63 => ?_)
          · skip
            refine ex_iload_n ok_J6_numberOfLeadingZeros_0f7a4 (mi 42 rfl) rfl ?_
            refine ex_iload_n ok_J6_numberOfLeadingZeros_0f7a4 (mi 43 rfl) rfl ?_
            refine ex_iconst ok_J6_numberOfLeadingZeros_0f7a4 (mi 44 rfl) ?_
            refine ex_iushr ok_J6_numberOfLeadingZeros_0f7a4 (mi 45 rfl) ?_
            refine ex_gen (fun w43 => ?_)
            refine ex_isub ok_J6_numberOfLeadingZeros_0f7a4 (mi 46 rfl) ?_
            refine ex_gen (fun w44 => ?_)
            refine ex_iret ok_J6_numberOfLeadingZeros_0f7a4 (mi 47 rfl) rfl ?_
            exact ⟨_, rfl, ⟨_, rfl⟩, rfl⟩
          · skip
            refine ex_iincx (w := (nI 1)) ok_J6_numberOfLeadingZeros_0f7a4 (mi 37 rfl) rfl (by decide) ?_
            refine ex_iload_n ok_J6_numberOfLeadingZeros_0f7a4 (mi 38 rfl) rfl ?_
            refine ex_iconst ok_J6_numberOfLeadingZeros_0f7a4 (mi 39 rfl) ?_
            refine ex_iushr ok_J6_numberOfLeadingZeros_0f7a4 (mi 40 rfl) ?_
            refine ex_gen (fun w45 => ?_)
            refine ex_istore_n ok_J6_numberOfLeadingZeros_0f7a4 (mi 41 rfl) ?_
            refine ex_iload_n ok_J6_numberOfLeadingZeros_0f7a4 (mi 42 rfl) rfl ?_
            refine ex_iload_n ok_J6_numberOfLeadingZeros_0f7a4 (mi 43 rfl) rfl ?_
            refine ex_iconst ok_J6_numberOfLeadingZeros_0f7a4 (mi 44 rfl) ?_
            refine ex_iushr ok_J6_numberOfLeadingZeros_0f7a4 (mi 45 rfl) ?_
            refine ex_gen (fun w46 => ?_)
            refine ex_isub ok_J6_numberOfLeadingZeros_0f7a4 (mi 46 rfl) ?_
            refine ex_gen (fun w47 => ?_)
            refine ex_iret ok_J6_numberOfLeadingZeros_0f7a4 (mi 47 rfl) rfl ?_
            exact ⟨_, rfl, ⟨_, rfl⟩, rfl⟩
  · skip
    refine ex_iload_n ok_J6_numberOfLeadingZeros_0f7a4 (mi 2 rfl) rfl ?_
    refine ex_if_ne (tgt := 13) ok_J6_numberOfLeadingZeros_0f7a4 (mi 3 rfl) rfl (fun h5 => ?_) (fun h5 => ?_)
    · skip
      refine ex_iconst ok_J6_numberOfLeadingZeros_0f7a4 (mi 6 rfl) ?_
      refine ex_iret ok_J6_numberOfLeadingZeros_0f7a4 (mi 7 rfl) rfl ?_
      exact ⟨_, rfl, ⟨_, rfl⟩, rfl⟩
    · skip
      refine ex_bipush ok_J6_numberOfLeadingZeros_0f7a4 (mi 4 rfl) ?_
      refine ex_goto (tgt := 14) ok_J6_numberOfLeadingZeros_0f7a4 (mi 5 rfl) rfl ?_
      refine ex_iret ok_J6_numberOfLeadingZeros_0f7a4 (mi 7 rfl) rfl ?_
      exact ⟨_, rfl, ⟨_, rfl⟩, rfl⟩
theorem s_X7_has {G : GE} (hst : (ge_l G).stackTraces = false) {x : Nat} {U : UT} {g : GT} (I : INV x U g) {s0 : Nat} (hs0 : RDR x s0) {p1 : Int32} : ex_M G 1 0 0 my_X7_has [.ref s0, .int p1] g (SVp g (fun v => ∃ i, v = some (.int i) ∧ (i = 0 ∨ i = 1) ∧ (i ≠ 0 → vp_in p1 300))) := by
  refine ex_M_of ok_X7_has cw_X7_has rfl hst (Nat.le_of_ble_eq_true rfl) ?_
  refine ex_iload_n ok_X7_has (mi 0 rfl) rfl ?_
  refine ex_if_lt (tgt := 31) ok_X7_has (mi 1 rfl) rfl (fun h1 => ?_) (fun h1 => ?_)
  · skip
    refine ex_iconst ok_X7_has (mi 19 rfl) ?_
    refine ex_zret ok_X7_has (mi 20 rfl) rfl (by decide) ?_
    exact ⟨_, rfl, ⟨_, rfl, (by decide), fun e => absurd (by decide) e⟩, rfl⟩
  · skip
    refine ex_iload_n ok_X7_has (mi 2 rfl) rfl ?_
    refine ex_sipush ok_X7_has (mi 3 rfl) ?_
    refine ex_icmp_ge (tgt := 31) ok_X7_has (mi 4 rfl) rfl (fun h8 => ?_) (fun h8 => ?_)
    · skip
      refine ex_iconst ok_X7_has (mi 19 rfl) ?_
      refine ex_zret ok_X7_has (mi 20 rfl) rfl (by decide) ?_
      exact ⟨_, rfl, ⟨_, rfl, (by decide), fun e => absurd (by decide) e⟩, rfl⟩
    · skip
      refine ex_aload_n ok_X7_has (mi 5 rfl) rfl ?_
      refine ex_iload_n ok_X7_has (mi 6 rfl) rfl ?_
      refine ex_bipush ok_X7_has (mi 7 rfl) ?_
      refine ex_idiv ok_X7_has (mi 8 rfl) (by decide) ?_
      refine sf_iald ok_X7_has (mi 9 rfl) (INV_rd I hs0).1 rfl (vp_mono (div32v h1 h8) (INV_rd I hs0).2) (fun v1 => ?_)
      refine ex_iload_n ok_X7_has (mi 10 rfl) rfl ?_
      refine ex_bipush ok_X7_has (mi 11 rfl) ?_
      refine ex_irem ok_X7_has (mi 12 rfl) (by decide) ?_
      refine ex_gen (fun w2 => ?_)
      refine ex_ishr ok_X7_has (mi 13 rfl) ?_
      refine ex_gen (fun w3 => ?_)
      refine ex_iconst ok_X7_has (mi 14 rfl) ?_
      refine ex_iand ok_X7_has (mi 15 rfl) ?_
      refine ex_gen (fun w4 => ?_)
      refine ex_if_eq (tgt := 31) ok_X7_has (mi 16 rfl) rfl (fun h24 => ?_) (fun h24 => ?_)
      · skip
        refine ex_iconst ok_X7_has (mi 19 rfl) ?_
        refine ex_zret ok_X7_has (mi 20 rfl) rfl (by decide) ?_
        exact ⟨_, rfl, ⟨_, rfl, (by decide), fun e => absurd (by decide) e⟩, rfl⟩
      · skip
        refine ex_iconst ok_X7_has (mi 17 rfl) ?_
        refine ex_goto (tgt := 32) ok_X7_has (mi 18 rfl) rfl ?_
        refine ex_zret ok_X7_has (mi 20 rfl) rfl (by decide) ?_
        exact ⟨_, rfl, ⟨_, rfl, (by decide), fun _ => vin_of h1 (not_le_lt h8) (by decide)⟩, rfl⟩
theorem s_X7_add {G : GE} (hst : (ge_l G).stackTraces = false) {x : Nat} {U : UT} {g : GT} (I : INV x U g) {s0 : Nat} (hs0 : RDR x s0) {p1 : Int32} : ex_M G 1 0 0 my_X7_add [.ref s0, .int p1] g (SV x U pN) := by
  refine ex_M_of ok_X7_add cw_X7_add rfl hst (Nat.le_of_ble_eq_true rfl) ?_
  refine ex_iload_n ok_X7_add (mi 0 rfl) rfl ?_
  refine ex_if_lt (tgt := 26) ok_X7_add (mi 1 rfl) rfl (fun h1 => ?_) (fun h1 => ?_)
  · skip
    refine ex_vret ok_X7_add (mi 18 rfl) rfl ?_
    exact ⟨_, rfl, rfl, I⟩
  · skip
    refine ex_iload_n ok_X7_add (mi 2 rfl) rfl ?_
    refine ex_sipush ok_X7_add (mi 3 rfl) ?_
    refine ex_icmp_ge (tgt := 26) ok_X7_add (mi 4 rfl) rfl (fun h8 => ?_) (fun h8 => ?_)
    · skip
      refine ex_vret ok_X7_add (mi 18 rfl) rfl ?_
      exact ⟨_, rfl, rfl, I⟩
    · skip
      refine ex_aload_n ok_X7_add (mi 5 rfl) rfl ?_
      refine ex_iload_n ok_X7_add (mi 6 rfl) rfl ?_
      refine ex_bipush ok_X7_add (mi 7 rfl) ?_
      refine ex_idiv ok_X7_add (mi 8 rfl) (by decide) ?_
      refine ex_dup2 ok_X7_add (mi 9 rfl) rfl rfl ?_
      refine sf_iald ok_X7_add (mi 10 rfl) (INV_rd I hs0).1 rfl (vp_mono (div32v h1 h8) (INV_rd I hs0).2) (fun v1 => ?_)
      refine ex_iconst ok_X7_add (mi 11 rfl) ?_
      refine ex_iload_n ok_X7_add (mi 12 rfl) rfl ?_
      refine ex_bipush ok_X7_add (mi 13 rfl) ?_
      refine ex_irem ok_X7_add (mi 14 rfl) (by decide) ?_
      refine ex_gen (fun w2 => ?_)
      refine ex_ishl ok_X7_add (mi 15 rfl) ?_
      refine ex_gen (fun w3 => ?_)
      refine ex_ior ok_X7_add (mi 16 rfl) ?_
      refine ex_gen (fun w4 => ?_)
      refine sf_iast I ok_X7_add (mi 17 rfl) (INV_rd I hs0).1 rfl (vp_mono (div32v h1 h8) (INV_rd I hs0).2) (RDR_ne hs0) (fun g5 J6 => ?_)
      refine ex_vret ok_X7_add (mi 18 rfl) rfl ?_
      exact ⟨_, rfl, rfl, J6⟩
theorem s_X7_addAll {G : GE} (hst : (ge_l G).stackTraces = false) {x : Nat} {U : UT} {g : GT} (I : INV x U g) {s0 : Nat} (hs0 : RDR x s0) {s1 : Nat} (hs1 : RDR x s1) : ex_M G 1 0 0 my_X7_addAll [.ref s0, .ref s1] g (SV x U pN) := by
  refine ex_M_of ok_X7_addAll cw_X7_addAll rfl hst (Nat.le_of_ble_eq_true rfl) ?_
  refine ex_iconst ok_X7_addAll (mi 0 rfl) ?_
  refine ex_istore_n ok_X7_addAll (mi 1 rfl) ?_
  have lp2 : ∀ n2 k2 : Nat, k2 + n2 = 10 → ∀ (g1 : GT), INV x U g1 → ex_W G 1 0 0 M_X7_addAll 2 [(0, .ref s0), (1, .ref s1), (2, .int (nI k2))] [] g1 (SV x U pN) := by
    intro n2
    induction n2 with
    | zero =>
      intro k2 hk2  g1 J2
      obtain rfl : k2 = 10 := by omega
      refine ex_iload_n ok_X7_addAll (mi 2 rfl) rfl ?_
      refine ex_bipush ok_X7_addAll (mi 3 rfl) ?_
      refine ex_icmp_ge (tgt := 23) ok_X7_addAll (mi 4 rfl) rfl (fun _ => ?_) (fun hn => absurd (by decide) hn)
      refine ex_vret ok_X7_addAll (mi 16 rfl) rfl ?_
      exact ⟨_, rfl, rfl, J2⟩
    | succ n2 ih2 =>
      intro k2 hk2  g1 J2
      have hr2 : k2 < 10 := by omega
      refine ex_iload_n ok_X7_addAll (mi 2 rfl) rfl ?_
      refine ex_bipush ok_X7_addAll (mi 3 rfl) ?_
      refine ex_icmp_ge (tgt := 23) ok_X7_addAll (mi 4 rfl) rfl (fun hn => absurd hn (nI_ge hr2 (by decide))) (fun _ => ?_)
      refine ex_aload_n ok_X7_addAll (mi 5 rfl) rfl ?_
      refine ex_iload_n ok_X7_addAll (mi 6 rfl) rfl ?_
      refine ex_dup2 ok_X7_addAll (mi 7 rfl) rfl rfl ?_
      refine sf_iald ok_X7_addAll (mi 8 rfl) (INV_rd J2 hs0).1 rfl (vp_mono (vp_in_nI (by omega) (by decide)) (INV_rd J2 hs0).2) (fun v3 => ?_)
      refine ex_aload_n ok_X7_addAll (mi 9 rfl) rfl ?_
      refine ex_iload_n ok_X7_addAll (mi 10 rfl) rfl ?_
      refine sf_iald ok_X7_addAll (mi 11 rfl) (INV_rd J2 hs1).1 rfl (vp_mono (vp_in_nI (by omega) (by decide)) (INV_rd J2 hs1).2) (fun v4 => ?_)
      refine ex_ior ok_X7_addAll (mi 12 rfl) ?_
      refine ex_gen (fun w5 => ?_)
      refine sf_iast J2 ok_X7_addAll (mi 13 rfl) (INV_rd J2 hs0).1 rfl (vp_mono (vp_in_nI (by omega) (by decide)) (INV_rd J2 hs0).2) (RDR_ne hs0) (fun g6 J7 => ?_)
      refine ex_iincx (w := (nI (k2 + 1))) ok_X7_addAll (mi 14 rfl) rfl (nI_1 _) ?_
      refine ex_goto (tgt := 2) ok_X7_addAll (mi 15 rfl) rfl ?_
      exact ex_ls (ls' := [(0, .ref s0), (1, .ref s1), (2, .int (nI (k2 + 1)))]) ⟨rfl, rfl, rfl, trivial⟩ (ih2 (k2 + 1) (by omega) g6 J7)
  exact ex_ls (ls' := [(0, .ref s0), (1, .ref s1), (2, .int (nI 0))]) ⟨rfl, rfl, rfl, trivial⟩ (lp2 10 0 (by decide) g I)
theorem s_X7_setTo {G : GE} (hst : (ge_l G).stackTraces = false) {x : Nat} {U : UT} {g : GT} (I : INV x U g) {s0 : Nat} (hs0 : RDR x s0) {s1 : Nat} (hs1 : RDR x s1) : ex_M G 1 0 0 my_X7_setTo [.ref s0, .ref s1] g (SV x U pN) := by
  refine ex_M_of ok_X7_setTo cw_X7_setTo rfl hst (Nat.le_of_ble_eq_true rfl) ?_
  refine ex_aload_n ok_X7_setTo (mi 0 rfl) rfl ?_
  refine ex_iconst ok_X7_setTo (mi 1 rfl) ?_
  refine ex_aload_n ok_X7_setTo (mi 2 rfl) rfl ?_
  refine ex_iconst ok_X7_setTo (mi 3 rfl) ?_
  refine ex_bipush ok_X7_setTo (mi 4 rfl) ?_
  refine sf_copy I ok_X7_setTo (mi 5 rfl) rfl (INV_rd I hs1).1 (INV_rd I hs0).1 (INV_rd I hs1).2 (INV_rd I hs0).2 (by decide) (by decide) (by decide) (by decide) (by decide) (Nat.le_of_ble_eq_true rfl) (RDR_ne hs0) (fun g1 J2 => ?_)
  refine ex_vret ok_X7_setTo (mi 6 rfl) rfl ?_
  exact ⟨_, rfl, rfl, J2⟩
theorem s_X7_bitsBelow {G : GE} (hst : (ge_l G).stackTraces = false) {x : Nat} {U : UT} {g : GT} (I : INV x U g) {p0 : Int32} {p1 : Int32} : ex_M G 1 0 0 my_X7_bitsBelow [.int p0, .int p1] g (SVp g pI) := by
  refine ex_M_of ok_X7_bitsBelow cw_X7_bitsBelow rfl hst (Nat.le_of_ble_eq_true rfl) ?_
  refine ex_iload_n ok_X7_bitsBelow (mi 0 rfl) rfl ?_
  refine ex_iload_n ok_X7_bitsBelow (mi 1 rfl) rfl ?_
  refine ex_bipush ok_X7_bitsBelow (mi 2 rfl) ?_
  refine ex_imul ok_X7_bitsBelow (mi 3 rfl) ?_
  refine ex_gen (fun w1 => ?_)
  refine ex_isub ok_X7_bitsBelow (mi 4 rfl) ?_
  refine ex_gen (fun w2 => ?_)
  refine ex_istore_n ok_X7_bitsBelow (mi 5 rfl) ?_
  refine ex_iload_n ok_X7_bitsBelow (mi 6 rfl) rfl ?_
  refine ex_if_gt (tgt := 13) ok_X7_bitsBelow (mi 7 rfl) rfl (fun h8 => ?_) (fun h8 => ?_)
  · skip
    refine ex_iload_n ok_X7_bitsBelow (mi 10 rfl) rfl ?_
    refine ex_bipush ok_X7_bitsBelow (mi 11 rfl) ?_
    refine ex_icmp_lt (tgt := 23) ok_X7_bitsBelow (mi 12 rfl) rfl (fun h16 => ?_) (fun h16 => ?_)
    · skip
      refine ex_iconst ok_X7_bitsBelow (mi 15 rfl) ?_
      refine ex_iload_n ok_X7_bitsBelow (mi 16 rfl) rfl ?_
      refine ex_ishl ok_X7_bitsBelow (mi 17 rfl) ?_
      refine ex_gen (fun w3 => ?_)
      refine ex_iconst ok_X7_bitsBelow (mi 18 rfl) ?_
      refine ex_isub ok_X7_bitsBelow (mi 19 rfl) ?_
      refine ex_gen (fun w4 => ?_)
      refine ex_iret ok_X7_bitsBelow (mi 20 rfl) rfl ?_
      exact ⟨_, rfl, ⟨_, rfl⟩, rfl⟩
    · skip
      refine ex_iconst ok_X7_bitsBelow (mi 13 rfl) ?_
      refine ex_goto (tgt := 28) ok_X7_bitsBelow (mi 14 rfl) rfl ?_
      refine ex_iret ok_X7_bitsBelow (mi 20 rfl) rfl ?_
      exact ⟨_, rfl, ⟨_, rfl⟩, rfl⟩
  · skip
    refine ex_iconst ok_X7_bitsBelow (mi 8 rfl) ?_
    refine ex_iret ok_X7_bitsBelow (mi 9 rfl) rfl ?_
    exact ⟨_, rfl, ⟨_, rfl⟩, rfl⟩
theorem s_X7_dropBelow {G : GE} (hst : (ge_l G).stackTraces = false) {x : Nat} {U : UT} {g : GT} (I : INV x U g) {s0 : Nat} (hs0 : RDR x s0) {p1 : Int32} : ex_M G 2 0 0 my_X7_dropBelow [.ref s0, .int p1] g (SV x U pN) := by
  refine ex_M_of ok_X7_dropBelow cw_X7_dropBelow rfl hst (Nat.le_of_ble_eq_true rfl) ?_
  refine ex_iconst ok_X7_dropBelow (mi 0 rfl) ?_
  refine ex_istore_n ok_X7_dropBelow (mi 1 rfl) ?_
  have lp2 : ∀ n2 k2 : Nat, k2 + n2 = 10 → ∀ (g1 : GT), INV x U g1 → ex_W G 2 0 0 M_X7_dropBelow 2 [(0, .ref s0), (1, .int p1), (2, .int (nI k2))] [] g1 (SV x U pN) := by
    intro n2
    induction n2 with
    | zero =>
      intro k2 hk2  g1 J2
      obtain rfl : k2 = 10 := by omega
      refine ex_iload_n ok_X7_dropBelow (mi 2 rfl) rfl ?_
      refine ex_bipush ok_X7_dropBelow (mi 3 rfl) ?_
      refine ex_icmp_ge (tgt := 27) ok_X7_dropBelow (mi 4 rfl) rfl (fun _ => ?_) (fun hn => absurd (by decide) hn)
      refine ex_vret ok_X7_dropBelow (mi 18 rfl) rfl ?_
      exact ⟨_, rfl, rfl, J2⟩
    | succ n2 ih2 =>
      intro k2 hk2  g1 J2
      have hr2 : k2 < 10 := by omega
      refine ex_iload_n ok_X7_dropBelow (mi 2 rfl) rfl ?_
      refine ex_bipush ok_X7_dropBelow (mi 3 rfl) ?_
      refine ex_icmp_ge (tgt := 27) ok_X7_dropBelow (mi 4 rfl) rfl (fun hn => absurd hn (nI_ge hr2 (by decide))) (fun _ => ?_)
      refine ex_aload_n ok_X7_dropBelow (mi 5 rfl) rfl ?_
      refine ex_iload_n ok_X7_dropBelow (mi 6 rfl) rfl ?_
      refine ex_dup2 ok_X7_dropBelow (mi 7 rfl) rfl rfl ?_
      refine sf_iald ok_X7_dropBelow (mi 8 rfl) (INV_rd J2 hs0).1 rfl (vp_mono (vp_in_nI (by omega) (by decide)) (INV_rd J2 hs0).2) (fun v3 => ?_)
      refine ex_iload_n ok_X7_dropBelow (mi 9 rfl) rfl ?_
      refine ex_iload_n ok_X7_dropBelow (mi 10 rfl) rfl ?_
      refine sf_Sp (As := [_, _]) ok_X7_dropBelow (mi 11 rfl) rfl (s_X7_bitsBelow hst J2) rfl rfl rfl (by decide) (Nat.le_of_ble_eq_true rfl) (by decide) (fun z4 p6 => ?_)
      obtain ⟨v8, rfl⟩ := p6
      refine ex_iconst ok_X7_dropBelow (mi 12 rfl) ?_
      refine ex_ixor ok_X7_dropBelow (mi 13 rfl) ?_
      refine ex_gen (fun w9 => ?_)
      refine ex_iand ok_X7_dropBelow (mi 14 rfl) ?_
      refine ex_gen (fun w10 => ?_)
      refine sf_iast J2 ok_X7_dropBelow (mi 15 rfl) (INV_rd J2 hs0).1 rfl (vp_mono (vp_in_nI (by omega) (by decide)) (INV_rd J2 hs0).2) (RDR_ne hs0) (fun g11 J12 => ?_)
      refine ex_iincx (w := (nI (k2 + 1))) ok_X7_dropBelow (mi 16 rfl) rfl (nI_1 _) ?_
      refine ex_goto (tgt := 2) ok_X7_dropBelow (mi 17 rfl) rfl ?_
      exact ex_ls (ls' := [(0, .ref s0), (1, .int p1), (2, .int (nI (k2 + 1)))]) ⟨rfl, rfl, rfl, trivial⟩ (ih2 (k2 + 1) (by omega) g11 J12)
  exact ex_ls (ls' := [(0, .ref s0), (1, .int p1), (2, .int (nI 0))]) ⟨rfl, rfl, rfl, trivial⟩ (lp2 10 0 (by decide) g I)
theorem s_X7_keepBelow {G : GE} (hst : (ge_l G).stackTraces = false) {x : Nat} {U : UT} {g : GT} (I : INV x U g) {s0 : Nat} (hs0 : RDR x s0) {p1 : Int32} : ex_M G 2 0 0 my_X7_keepBelow [.ref s0, .int p1] g (SV x U pN) := by
  refine ex_M_of ok_X7_keepBelow cw_X7_keepBelow rfl hst (Nat.le_of_ble_eq_true rfl) ?_
  refine ex_iconst ok_X7_keepBelow (mi 0 rfl) ?_
  refine ex_istore_n ok_X7_keepBelow (mi 1 rfl) ?_
  have lp2 : ∀ n2 k2 : Nat, k2 + n2 = 10 → ∀ (g1 : GT), INV x U g1 → ex_W G 2 0 0 M_X7_keepBelow 2 [(0, .ref s0), (1, .int p1), (2, .int (nI k2))] [] g1 (SV x U pN) := by
    intro n2
    induction n2 with
    | zero =>
      intro k2 hk2  g1 J2
      obtain rfl : k2 = 10 := by omega
      refine ex_iload_n ok_X7_keepBelow (mi 2 rfl) rfl ?_
      refine ex_bipush ok_X7_keepBelow (mi 3 rfl) ?_
      refine ex_icmp_ge (tgt := 25) ok_X7_keepBelow (mi 4 rfl) rfl (fun _ => ?_) (fun hn => absurd (by decide) hn)
      refine ex_vret ok_X7_keepBelow (mi 16 rfl) rfl ?_
      exact ⟨_, rfl, rfl, J2⟩
    | succ n2 ih2 =>
      intro k2 hk2  g1 J2
      have hr2 : k2 < 10 := by omega
      refine ex_iload_n ok_X7_keepBelow (mi 2 rfl) rfl ?_
      refine ex_bipush ok_X7_keepBelow (mi 3 rfl) ?_
      refine ex_icmp_ge (tgt := 25) ok_X7_keepBelow (mi 4 rfl) rfl (fun hn => absurd hn (nI_ge hr2 (by decide))) (fun _ => ?_)
      refine ex_aload_n ok_X7_keepBelow (mi 5 rfl) rfl ?_
      refine ex_iload_n ok_X7_keepBelow (mi 6 rfl) rfl ?_
      refine ex_dup2 ok_X7_keepBelow (mi 7 rfl) rfl rfl ?_
      refine sf_iald ok_X7_keepBelow (mi 8 rfl) (INV_rd J2 hs0).1 rfl (vp_mono (vp_in_nI (by omega) (by decide)) (INV_rd J2 hs0).2) (fun v3 => ?_)
      refine ex_iload_n ok_X7_keepBelow (mi 9 rfl) rfl ?_
      refine ex_iload_n ok_X7_keepBelow (mi 10 rfl) rfl ?_
      refine sf_Sp (As := [_, _]) ok_X7_keepBelow (mi 11 rfl) rfl (s_X7_bitsBelow hst J2) rfl rfl rfl (by decide) (Nat.le_of_ble_eq_true rfl) (by decide) (fun z4 p6 => ?_)
      obtain ⟨v8, rfl⟩ := p6
      refine ex_iand ok_X7_keepBelow (mi 12 rfl) ?_
      refine ex_gen (fun w9 => ?_)
      refine sf_iast J2 ok_X7_keepBelow (mi 13 rfl) (INV_rd J2 hs0).1 rfl (vp_mono (vp_in_nI (by omega) (by decide)) (INV_rd J2 hs0).2) (RDR_ne hs0) (fun g10 J11 => ?_)
      refine ex_iincx (w := (nI (k2 + 1))) ok_X7_keepBelow (mi 14 rfl) rfl (nI_1 _) ?_
      refine ex_goto (tgt := 2) ok_X7_keepBelow (mi 15 rfl) rfl ?_
      exact ex_ls (ls' := [(0, .ref s0), (1, .int p1), (2, .int (nI (k2 + 1)))]) ⟨rfl, rfl, rfl, trivial⟩ (ih2 (k2 + 1) (by omega) g10 J11)
  exact ex_ls (ls' := [(0, .ref s0), (1, .int p1), (2, .int (nI 0))]) ⟨rfl, rfl, rfl, trivial⟩ (lp2 10 0 (by decide) g I)
theorem s_X7_size {G : GE} (hst : (ge_l G).stackTraces = false) {x : Nat} {U : UT} {g : GT} (I : INV x U g) {s0 : Nat} (hs0 : RDR x s0) : ex_M G 2 0 0 my_X7_size [.ref s0] g (SVp g pI) := by
  refine ex_M_of ok_X7_size cw_X7_size rfl hst (Nat.le_of_ble_eq_true rfl) ?_
  refine ex_iconst ok_X7_size (mi 0 rfl) ?_
  refine ex_istore_n ok_X7_size (mi 1 rfl) ?_
  refine ex_iconst ok_X7_size (mi 2 rfl) ?_
  refine ex_istore_n ok_X7_size (mi 3 rfl) ?_
  have lp4 : ∀ n4 k4 : Nat, k4 + n4 = 10 → ∀ (q1 : Int32), ex_W G 2 0 0 M_X7_size 4 [(0, .ref s0), (1, .int q1), (2, .int (nI k4))] [] g (SVp g pI) := by
    intro n4
    induction n4 with
    | zero =>
      intro k4 hk4 q1
      obtain rfl : k4 = 10 := by omega
      refine ex_iload_n ok_X7_size (mi 4 rfl) rfl ?_
      refine ex_bipush ok_X7_size (mi 5 rfl) ?_
      refine ex_icmp_ge (tgt := 25) ok_X7_size (mi 6 rfl) rfl (fun _ => ?_) (fun hn => absurd (by decide) hn)
      refine ex_iload_n ok_X7_size (mi 16 rfl) rfl ?_
      refine ex_iret ok_X7_size (mi 17 rfl) rfl ?_
      exact ⟨_, rfl, ⟨_, rfl⟩, rfl⟩
    | succ n4 ih4 =>
      intro k4 hk4 q1
      have hr4 : k4 < 10 := by omega
      refine ex_iload_n ok_X7_size (mi 4 rfl) rfl ?_
      refine ex_bipush ok_X7_size (mi 5 rfl) ?_
      refine ex_icmp_ge (tgt := 25) ok_X7_size (mi 6 rfl) rfl (fun hn => absurd hn (nI_ge hr4 (by decide))) (fun _ => ?_)
      refine ex_iload_n ok_X7_size (mi 7 rfl) rfl ?_
      refine ex_aload_n ok_X7_size (mi 8 rfl) rfl ?_
      refine ex_iload_n ok_X7_size (mi 9 rfl) rfl ?_
      refine sf_iald ok_X7_size (mi 10 rfl) (INV_rd I hs0).1 rfl (vp_mono (vp_in_nI (by omega) (by decide)) (INV_rd I hs0).2) (fun v4 => ?_)
      refine sf_Sp (As := [_]) ok_X7_size (mi 11 rfl) rfl (s_J6_bitCount_0f7a4 hst I) rfl rfl rfl (by decide) (Nat.le_of_ble_eq_true rfl) (by decide) (fun z5 p7 => ?_)
      obtain ⟨v9, rfl⟩ := p7
      refine ex_iadd ok_X7_size (mi 12 rfl) ?_
      refine ex_gen (fun w10 => ?_)
      refine ex_istore_n ok_X7_size (mi 13 rfl) ?_
      refine ex_iincx (w := (nI (k4 + 1))) ok_X7_size (mi 14 rfl) rfl (nI_1 _) ?_
      refine ex_goto (tgt := 4) ok_X7_size (mi 15 rfl) rfl ?_
      exact ex_ls (ls' := [(0, .ref s0), (1, .int w10), (2, .int (nI (k4 + 1)))]) ⟨rfl, rfl, rfl, trivial⟩ (ih4 (k4 + 1) (by omega) _ )
  exact ex_ls (ls' := [(0, .ref s0), (1, .int (nI 0)), (2, .int (nI 0))]) ⟨rfl, rfl, rfl, trivial⟩ (lp4 10 0 (by decide) _ )
theorem s_X7_greatest {G : GE} (hst : (ge_l G).stackTraces = false) {x : Nat} {U : UT} {g : GT} (I : INV x U g) {s0 : Nat} (hs0 : RDR x s0) : ex_M G 2 0 0 my_X7_greatest [.ref s0] g (SVp g pI) := by
  refine ex_M_of ok_X7_greatest cw_X7_greatest rfl hst (Nat.le_of_ble_eq_true rfl) ?_
  refine ex_bipush ok_X7_greatest (mi 0 rfl) ?_
  refine ex_istore_n ok_X7_greatest (mi 1 rfl) ?_
  have lp3 : ∀ n3 : Nat, n3 ≤ 10 → ex_W G 2 0 0 M_X7_greatest 3 [(0, .ref s0), (1, .int (nI n3 - 1))] [] g (SVp g pI) := by
    intro n3
    induction n3 with
    | zero =>
      intro hk3 
      refine ex_ls (ls' := [(0, .ref s0), (1, .int (-1))]) ⟨rfl, congrArg some (congrArg Value.int (by decide)), trivial⟩ ?_
      refine ex_iload_n ok_X7_greatest (mi 2 rfl) rfl ?_
      refine ex_if_lt (tgt := 36) ok_X7_greatest (mi 3 rfl) rfl (fun _ => ?_) (fun hn => absurd (by decide) hn)
      refine ex_iconst ok_X7_greatest (mi 23 rfl) ?_
      refine ex_iret ok_X7_greatest (mi 24 rfl) rfl ?_
      exact ⟨_, rfl, ⟨_, rfl⟩, rfl⟩
    | succ n3 ih3 =>
      intro hk3 
      refine ex_ls (ls' := [(0, .ref s0), (1, .int (nI n3))]) ⟨rfl, congrArg some (congrArg Value.int (nI_pred _)), trivial⟩ ?_
      refine ex_iload_n ok_X7_greatest (mi 2 rfl) rfl ?_
      refine ex_if_lt (tgt := 36) ok_X7_greatest (mi 3 rfl) rfl (fun h4 => ?_) (fun h4 => ?_)
      · skip
        refine ex_iconst ok_X7_greatest (mi 23 rfl) ?_
        refine ex_iret ok_X7_greatest (mi 24 rfl) rfl ?_
        exact ⟨_, rfl, ⟨_, rfl⟩, rfl⟩
      · skip
        refine ex_aload_n ok_X7_greatest (mi 4 rfl) rfl ?_
        refine ex_iload_n ok_X7_greatest (mi 5 rfl) rfl ?_
        refine sf_iald ok_X7_greatest (mi 6 rfl) (INV_rd I hs0).1 rfl (vp_mono (vp_in_nI (by omega) (by decide)) (INV_rd I hs0).2) (fun v3 => ?_)
        refine ex_if_eq (tgt := 30) ok_X7_greatest (mi 7 rfl) rfl (fun h10 => ?_) (fun h10 => ?_)
        · skip
          refine ex_iinc ok_X7_greatest (mi 21 rfl) rfl ?_
          refine ex_goto (tgt := 3) ok_X7_greatest (mi 22 rfl) rfl ?_
          exact ex_ls (ls' := [(0, .ref s0), (1, .int (nI n3 - 1))]) ⟨rfl, congrArg (fun z => some (Value.int z)) (nI_m1 _), trivial⟩ (ih3 (by omega) )
        · skip
          refine ex_iload_n ok_X7_greatest (mi 8 rfl) rfl ?_
          refine ex_bipush ok_X7_greatest (mi 9 rfl) ?_
          refine ex_imul ok_X7_greatest (mi 10 rfl) ?_
          refine ex_gen (fun w4 => ?_)
          refine ex_bipush ok_X7_greatest (mi 11 rfl) ?_
          refine ex_iadd ok_X7_greatest (mi 12 rfl) ?_
          refine ex_gen (fun w5 => ?_)
          refine ex_iconst ok_X7_greatest (mi 13 rfl) ?_
          refine ex_isub ok_X7_greatest (mi 14 rfl) ?_
          refine ex_gen (fun w6 => ?_)
          refine ex_aload_n ok_X7_greatest (mi 15 rfl) rfl ?_
          refine ex_iload_n ok_X7_greatest (mi 16 rfl) rfl ?_
          refine sf_iald ok_X7_greatest (mi 17 rfl) (INV_rd I hs0).1 rfl (vp_mono (vp_in_nI (by omega) (by decide)) (INV_rd I hs0).2) (fun v7 => ?_)
          refine sf_Sp (As := [_]) ok_X7_greatest (mi 18 rfl) rfl (s_J6_numberOfLeadingZeros_0f7a4 hst I) rfl rfl rfl (by decide) (Nat.le_of_ble_eq_true rfl) (by decide) (fun z8 p10 => ?_)
          obtain ⟨v12, rfl⟩ := p10
          refine ex_isub ok_X7_greatest (mi 19 rfl) ?_
          refine ex_gen (fun w13 => ?_)
          refine ex_iret ok_X7_greatest (mi 20 rfl) rfl ?_
          exact ⟨_, rfl, ⟨_, rfl⟩, rfl⟩
  exact ex_ls (ls' := [(0, .ref s0), (1, .int (nI 10 - 1))]) ⟨rfl, congrArg some (congrArg Value.int (by decide)), trivial⟩ (lp3 10 (by decide) )
theorem s_X7_empty {G : GE} (hst : (ge_l G).stackTraces = false) {x : Nat} {U : UT} {g : GT} (I : INV x U g) {s0 : Nat} (hs0 : RDR x s0) : ex_M G 3 0 0 my_X7_empty [.ref s0] g (SV x U pN) := by
  by_cases e : gx_N g s0 < 2 ^ 31
  · exact ex_M.mono (m_X7_empty hst (INV_rd I hs0).1 rfl e (INV_rd I hs0).2) (fun r h q => by
      obtain ⟨rfl, rfl⟩ := q
      exact ⟨_, rfl, rfl, INV_F I (RDR_ne hs0)⟩)
  · exact absurd (INV_rN I hs0) (fun k => e (by omega))
