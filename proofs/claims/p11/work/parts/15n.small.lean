/-! ===== small methods on numbers that are not known ===== -/
theorem vin_of {i : Int32} {n : Nat} (h1 : ¬ i < 0) (h2 : i < nI n) (hn : n < 2 ^ 31) : vp_in i n := by
  obtain ⟨j, hj, rfl⟩ := nI_of h1
  exact vp_in_nI ((nI_ltI hj hn).mp h2) hn
theorem vin_le {i : Int32} {n : Nat} (h1 : 0 ≤ i) (h2 : i ≤ nI n) (hn : n + 1 < 2 ^ 31) : vp_in i (n + 1) := by
  obtain ⟨j, hj, rfl⟩ := nI_of (x := i) (by rw [Int32.not_lt]; exact h1)
  exact vp_in_nI (Nat.lt_succ_of_le ((nI_leI hj (by omega)).mp h2)) hn
def us (x y : Int32) : Int32 := (x.toUInt32 >>> (y.toUInt32 &&& Int32.toUInt32 31)).toInt32
theorem m_reqOk0 {G : GE} (hst : (ge_l G).stackTraces = false) {h : GT} {j n : Nat} (hj : j < n) (hn : n < 2 ^ 31) : ex_M G 1 1 6 my_X11_requireIndex [.int (nI j), .int (nI n)] h (rv none h) := by
  refine ex_M_of ok_X11_requireIndex cw_X11_requireIndex rfl hst (Nat.le_of_ble_eq_true rfl) ?_
  refine ex_iload_n ok_X11_requireIndex (mi 0 rfl) rfl ?_
  refine ex_if_lt (tgt := 9) ok_X11_requireIndex (mi 1 rfl) rfl (fun h1 => False.elim (nI_pos (by omega) h1)) (fun h1 => ?_)
  refine ex_iload_n ok_X11_requireIndex (mi 2 rfl) rfl ?_
  refine ex_iload_n ok_X11_requireIndex (mi 3 rfl) rfl ?_
  refine ex_icmp_lt (tgt := 20) ok_X11_requireIndex (mi 4 rfl) rfl (fun h6 => ?_) (fun h6 => False.elim (h6 (nI_lt hj hn)))
  refine ex_vret ok_X11_requireIndex (mi 10 rfl) rfl ?_
  exact ⟨rfl, rfl⟩
theorem m_reqOk {G : GE} (hst : (ge_l G).stackTraces = false) {h : GT} {i b : Int32} {n : Nat} (hi : vp_in i n) (hn : n < 2 ^ 31) (hb : b = nI n) : ex_M G 1 1 6 my_X11_requireIndex [.int i, .int b] h (rv none h) := by
  subst hb
  obtain ⟨j, hj, rfl⟩ := vp_in_of hi hn
  exact m_reqOk0 hst hj hn
theorem m_reqBad {G : GE} (hst : (ge_l G).stackTraces = false) {h : GT} {i b : Int32} {m : Nat} (hi : ¬ vp_in i m) (hm : m < 2 ^ 31) (hb : b = nI m) : ex_M G 1 1 6 my_X11_requireIndex [.int i, .int b] h (tv 100 h) := by
  subst hb
  refine ex_M_of ok_X11_requireIndex cw_X11_requireIndex rfl hst (Nat.le_of_ble_eq_true rfl) ?_
  refine ex_iload_n ok_X11_requireIndex (mi 0 rfl) rfl ?_
  refine ex_if_lt (tgt := 9) ok_X11_requireIndex (mi 1 rfl) rfl (fun h1 => ?_) (fun h1 => ?_)
  · skip
    refine ex_throwW (e := 100) ok_X11_requireIndex (mi 5 rfl) (mi 6 rfl) (mi 7 rfl) (mi 8 rfl) (mi 9 rfl) (by decide) tx_261_265 (List.mem_of_getElem? (i := 0) rfl) rfl (by decide) (by decide) (Nat.le_of_ble_eq_true rfl) (fun n hn => ?_)
    exact ⟨rfl, n, hn, rfl⟩
  · skip
    refine ex_iload_n ok_X11_requireIndex (mi 2 rfl) rfl ?_
    refine ex_iload_n ok_X11_requireIndex (mi 3 rfl) rfl ?_
    refine ex_icmp_lt (tgt := 20) ok_X11_requireIndex (mi 4 rfl) rfl (fun h6 => ?_) (fun h6 => ?_)
    · skip
      refine ex_vret ok_X11_requireIndex (mi 10 rfl) rfl ?_
      exact absurd (vin_of h1 h6 hm) hi
    · skip
      refine ex_throwW (e := 100) ok_X11_requireIndex (mi 5 rfl) (mi 6 rfl) (mi 7 rfl) (mi 8 rfl) (mi 9 rfl) (by decide) tx_261_265 (List.mem_of_getElem? (i := 0) rfl) rfl (by decide) (by decide) (Nat.le_of_ble_eq_true rfl) (fun n hn => ?_)
      exact ⟨rfl, n, hn, rfl⟩
def bcE (v : Int32) : Int32 := ((((((((v - ((us v (nI 1)) &&& (nI 1431655765))) &&& (nI 858993459)) + ((us (v - ((us v (nI 1)) &&& (nI 1431655765))) (nI 2)) &&& (nI 858993459))) + (us (((v - ((us v (nI 1)) &&& (nI 1431655765))) &&& (nI 858993459)) + ((us (v - ((us v (nI 1)) &&& (nI 1431655765))) (nI 2)) &&& (nI 858993459))) (nI 4))) &&& (nI 252645135)) + (us (((((v - ((us v (nI 1)) &&& (nI 1431655765))) &&& (nI 858993459)) + ((us (v - ((us v (nI 1)) &&& (nI 1431655765))) (nI 2)) &&& (nI 858993459))) + (us (((v - ((us v (nI 1)) &&& (nI 1431655765))) &&& (nI 858993459)) + ((us (v - ((us v (nI 1)) &&& (nI 1431655765))) (nI 2)) &&& (nI 858993459))) (nI 4))) &&& (nI 252645135)) (nI 8))) + (us ((((((v - ((us v (nI 1)) &&& (nI 1431655765))) &&& (nI 858993459)) + ((us (v - ((us v (nI 1)) &&& (nI 1431655765))) (nI 2)) &&& (nI 858993459))) + (us (((v - ((us v (nI 1)) &&& (nI 1431655765))) &&& (nI 858993459)) + ((us (v - ((us v (nI 1)) &&& (nI 1431655765))) (nI 2)) &&& (nI 858993459))) (nI 4))) &&& (nI 252645135)) + (us (((((v - ((us v (nI 1)) &&& (nI 1431655765))) &&& (nI 858993459)) + ((us (v - ((us v (nI 1)) &&& (nI 1431655765))) (nI 2)) &&& (nI 858993459))) + (us (((v - ((us v (nI 1)) &&& (nI 1431655765))) &&& (nI 858993459)) + ((us (v - ((us v (nI 1)) &&& (nI 1431655765))) (nI 2)) &&& (nI 858993459))) (nI 4))) &&& (nI 252645135)) (nI 8))) (nI 16))) &&& (nI 63))
theorem m_bitCount {G : GE} (hst : (ge_l G).stackTraces = false) {h : GT} {v : Int32} : ex_M G 1 0 0 my_J6_bitCount_0f7a4 [.int v] h (rv (some (.int (bcE v))) h) := by
  refine ex_M_of ok_J6_bitCount_0f7a4 cw_J6_bitCount_0f7a4 rfl hst (Nat.le_of_ble_eq_true rfl) ?_
  refine ex_iload_n ok_J6_bitCount_0f7a4 (mi 0 rfl) rfl ?_
  refine ex_iload_n ok_J6_bitCount_0f7a4 (mi 1 rfl) rfl ?_
  refine ex_iconst ok_J6_bitCount_0f7a4 (mi 2 rfl) ?_
  refine ex_iushr ok_J6_bitCount_0f7a4 (mi 3 rfl) ?_
  refine ex_ldcw ok_J6_bitCount_0f7a4 (mi 4 rfl) rfl ?_
  refine ex_iand ok_J6_bitCount_0f7a4 (mi 5 rfl) ?_
  refine ex_isub ok_J6_bitCount_0f7a4 (mi 6 rfl) ?_
  refine ex_istore_n ok_J6_bitCount_0f7a4 (mi 7 rfl) ?_
  refine ex_iload_n ok_J6_bitCount_0f7a4 (mi 8 rfl) rfl ?_
  refine ex_ldcw ok_J6_bitCount_0f7a4 (mi 9 rfl) rfl ?_
  refine ex_iand ok_J6_bitCount_0f7a4 (mi 10 rfl) ?_
  refine ex_iload_n ok_J6_bitCount_0f7a4 (mi 11 rfl) rfl ?_
  refine ex_iconst ok_J6_bitCount_0f7a4 (mi 12 rfl) ?_
  refine ex_iushr ok_J6_bitCount_0f7a4 (mi 13 rfl) ?_
  refine ex_ldcw ok_J6_bitCount_0f7a4 (mi 14 rfl) rfl ?_
  refine ex_iand ok_J6_bitCount_0f7a4 (mi 15 rfl) ?_
  refine ex_iadd ok_J6_bitCount_0f7a4 (mi 16 rfl) ?_
  refine ex_istore_n ok_J6_bitCount_0f7a4 (mi 17 rfl) ?_
  refine ex_iload_n ok_J6_bitCount_0f7a4 (mi 18 rfl) rfl ?_
  refine ex_iload_n ok_J6_bitCount_0f7a4 (mi 19 rfl) rfl ?_
  refine ex_iconst ok_J6_bitCount_0f7a4 (mi 20 rfl) ?_
  refine ex_iushr ok_J6_bitCount_0f7a4 (mi 21 rfl) ?_
  refine ex_iadd ok_J6_bitCount_0f7a4 (mi 22 rfl) ?_
  refine ex_ldcw ok_J6_bitCount_0f7a4 (mi 23 rfl) rfl ?_
  refine ex_iand ok_J6_bitCount_0f7a4 (mi 24 rfl) ?_
  refine ex_istore_n ok_J6_bitCount_0f7a4 (mi 25 rfl) ?_
  refine ex_iload_n ok_J6_bitCount_0f7a4 (mi 26 rfl) rfl ?_
  refine ex_iload_n ok_J6_bitCount_0f7a4 (mi 27 rfl) rfl ?_
  refine ex_bipush ok_J6_bitCount_0f7a4 (mi 28 rfl) ?_
  refine ex_iushr ok_J6_bitCount_0f7a4 (mi 29 rfl) ?_
  refine ex_iadd ok_J6_bitCount_0f7a4 (mi 30 rfl) ?_
  refine ex_istore_n ok_J6_bitCount_0f7a4 (mi 31 rfl) ?_
  refine ex_iload_n ok_J6_bitCount_0f7a4 (mi 32 rfl) rfl ?_
  refine ex_iload_n ok_J6_bitCount_0f7a4 (mi 33 rfl) rfl ?_
  refine ex_bipush ok_J6_bitCount_0f7a4 (mi 34 rfl) ?_
  refine ex_iushr ok_J6_bitCount_0f7a4 (mi 35 rfl) ?_
  refine ex_iadd ok_J6_bitCount_0f7a4 (mi 36 rfl) ?_
  refine ex_istore_n ok_J6_bitCount_0f7a4 (mi 37 rfl) ?_
  refine ex_iload_n ok_J6_bitCount_0f7a4 (mi 38 rfl) rfl ?_
  refine ex_bipush ok_J6_bitCount_0f7a4 (mi 39 rfl) ?_
  refine ex_iand ok_J6_bitCount_0f7a4 (mi 40 rfl) ?_
  refine ex_iret ok_J6_bitCount_0f7a4 (mi 41 rfl) rfl ?_
  exact ⟨rfl, rfl⟩
def okR (l r : Int32) : Prop := 0 ≤ r ∧ r < nI 300 ∧ r - r / 3 * 3 = l
theorem m_isRoundOf1 {G : GE} (hst : (ge_l G).stackTraces = false) {h : GT} {l r : Int32} (k : okR l r) : ex_M G 1 0 0 my_X11_isRoundOf [.int l, .int r] h (rv (some (.int (nI 1))) h) := by
  refine ex_M_of ok_X11_isRoundOf cw_X11_isRoundOf rfl hst (Nat.le_of_ble_eq_true rfl) ?_
  refine ex_iload_n ok_X11_isRoundOf (mi 0 rfl) rfl ?_
  refine ex_if_lt (tgt := 22) ok_X11_isRoundOf (mi 1 rfl) rfl (fun h1 => False.elim (absurd k.1 (by rw [Int32.not_le]; exact h1))) (fun h1 => ?_)
  refine ex_iload_n ok_X11_isRoundOf (mi 2 rfl) rfl ?_
  refine ex_sipush ok_X11_isRoundOf (mi 3 rfl) ?_
  refine ex_icmp_ge (tgt := 22) ok_X11_isRoundOf (mi 4 rfl) rfl (fun h8 => False.elim (absurd k.2.1 (by rw [Int32.not_lt]; exact h8))) (fun h8 => ?_)
  refine ex_iload_n ok_X11_isRoundOf (mi 5 rfl) rfl ?_
  refine ex_iconst ok_X11_isRoundOf (mi 6 rfl) ?_
  refine ex_irem ok_X11_isRoundOf (mi 7 rfl) (by decide) ?_
  refine ex_iload_n ok_X11_isRoundOf (mi 8 rfl) rfl ?_
  refine ex_icmp_ne (tgt := 22) ok_X11_isRoundOf (mi 9 rfl) rfl (fun h15 => False.elim (h15 k.2.2)) (fun h15 => ?_)
  refine ex_iconst ok_X11_isRoundOf (mi 10 rfl) ?_
  refine ex_goto (tgt := 23) ok_X11_isRoundOf (mi 11 rfl) rfl ?_
  refine ex_zret ok_X11_isRoundOf (mi 13 rfl) rfl (by decide) ?_
  exact ⟨inlI (by decide), rfl⟩
theorem m_isRoundOf0 {G : GE} (hst : (ge_l G).stackTraces = false) {h : GT} {l r : Int32} (k : ¬ okR l r) : ex_M G 1 0 0 my_X11_isRoundOf [.int l, .int r] h (rv (some (.int (nI 0))) h) := by
  refine ex_M_of ok_X11_isRoundOf cw_X11_isRoundOf rfl hst (Nat.le_of_ble_eq_true rfl) ?_
  refine ex_iload_n ok_X11_isRoundOf (mi 0 rfl) rfl ?_
  refine ex_if_lt (tgt := 22) ok_X11_isRoundOf (mi 1 rfl) rfl (fun h1 => ?_) (fun h1 => ?_)
  · skip
    refine ex_iconst ok_X11_isRoundOf (mi 12 rfl) ?_
    refine ex_zret ok_X11_isRoundOf (mi 13 rfl) rfl (by decide) ?_
    exact ⟨rfl, rfl⟩
  · skip
    refine ex_iload_n ok_X11_isRoundOf (mi 2 rfl) rfl ?_
    refine ex_sipush ok_X11_isRoundOf (mi 3 rfl) ?_
    refine ex_icmp_ge (tgt := 22) ok_X11_isRoundOf (mi 4 rfl) rfl (fun h8 => ?_) (fun h8 => ?_)
    · skip
      refine ex_iconst ok_X11_isRoundOf (mi 12 rfl) ?_
      refine ex_zret ok_X11_isRoundOf (mi 13 rfl) rfl (by decide) ?_
      exact ⟨rfl, rfl⟩
    · skip
      refine ex_iload_n ok_X11_isRoundOf (mi 5 rfl) rfl ?_
      refine ex_iconst ok_X11_isRoundOf (mi 6 rfl) ?_
      refine ex_irem ok_X11_isRoundOf (mi 7 rfl) (by decide) ?_
      refine ex_iload_n ok_X11_isRoundOf (mi 8 rfl) rfl ?_
      refine ex_icmp_ne (tgt := 22) ok_X11_isRoundOf (mi 9 rfl) rfl (fun h15 => ?_) (fun h15 => ?_)
      · skip
        refine ex_iconst ok_X11_isRoundOf (mi 12 rfl) ?_
        refine ex_zret ok_X11_isRoundOf (mi 13 rfl) rfl (by decide) ?_
        exact ⟨rfl, rfl⟩
      · skip
        refine ex_iconst ok_X11_isRoundOf (mi 10 rfl) ?_
        refine ex_goto (tgt := 23) ok_X11_isRoundOf (mi 11 rfl) rfl ?_
        refine ex_zret ok_X11_isRoundOf (mi 13 rfl) rfl (by decide) ?_
        exact absurd ⟨by rw [← Int32.not_lt]; exact h1, by rw [← Int32.not_le]; exact h8, h15⟩ k
def okG (v : Int32) : Prop := 0 < v ∧ v < nI 4096 ∧ bcE v ≤ nI 5
theorem m_isGroup1 {G : GE} (hst : (ge_l G).stackTraces = false) {h : GT} {v : Int32} (k : okG v) : ex_M G 2 0 0 my_X11_isGroup [.int v] h (rv (some (.int (nI 1))) h) := by
  refine ex_M_of ok_X11_isGroup cw_X11_isGroup rfl hst (Nat.le_of_ble_eq_true rfl) ?_
  refine ex_iload_n ok_X11_isGroup (mi 0 rfl) rfl ?_
  refine ex_if_le (tgt := 23) ok_X11_isGroup (mi 1 rfl) rfl (fun h1 => False.elim (absurd k.1 (by rw [Int32.not_lt]; exact h1))) (fun h1 => ?_)
  refine ex_iload_n ok_X11_isGroup (mi 2 rfl) rfl ?_
  refine ex_sipush ok_X11_isGroup (mi 3 rfl) ?_
  refine ex_icmp_ge (tgt := 23) ok_X11_isGroup (mi 4 rfl) rfl (fun h8 => False.elim (absurd k.2.1 (by rw [Int32.not_lt]; exact h8))) (fun h8 => ?_)
  refine ex_iload_n ok_X11_isGroup (mi 5 rfl) rfl ?_
  refine ex_callSr (As := [_]) ok_X11_isGroup (mi 6 rfl) rfl (m_bitCount hst) rfl rfl rfl (by decide) (Nat.le_of_ble_eq_true rfl) (by decide) ?_
  refine ex_iconst ok_X11_isGroup (mi 7 rfl) ?_
  refine ex_icmp_gt (tgt := 23) ok_X11_isGroup (mi 8 rfl) rfl (fun h16 => False.elim (absurd k.2.2 (by rw [Int32.not_le]; exact h16))) (fun h16 => ?_)
  refine ex_iconst ok_X11_isGroup (mi 9 rfl) ?_
  refine ex_goto (tgt := 24) ok_X11_isGroup (mi 10 rfl) rfl ?_
  refine ex_zret ok_X11_isGroup (mi 12 rfl) rfl (by decide) ?_
  exact ⟨inlI (by decide), rfl⟩
theorem m_isGroup0 {G : GE} (hst : (ge_l G).stackTraces = false) {h : GT} {v : Int32} (k : ¬ okG v) : ex_M G 2 0 0 my_X11_isGroup [.int v] h (rv (some (.int (nI 0))) h) := by
  refine ex_M_of ok_X11_isGroup cw_X11_isGroup rfl hst (Nat.le_of_ble_eq_true rfl) ?_
  refine ex_iload_n ok_X11_isGroup (mi 0 rfl) rfl ?_
  refine ex_if_le (tgt := 23) ok_X11_isGroup (mi 1 rfl) rfl (fun h1 => ?_) (fun h1 => ?_)
  · skip
    refine ex_iconst ok_X11_isGroup (mi 11 rfl) ?_
    refine ex_zret ok_X11_isGroup (mi 12 rfl) rfl (by decide) ?_
    exact ⟨rfl, rfl⟩
  · skip
    refine ex_iload_n ok_X11_isGroup (mi 2 rfl) rfl ?_
    refine ex_sipush ok_X11_isGroup (mi 3 rfl) ?_
    refine ex_icmp_ge (tgt := 23) ok_X11_isGroup (mi 4 rfl) rfl (fun h8 => ?_) (fun h8 => ?_)
    · skip
      refine ex_iconst ok_X11_isGroup (mi 11 rfl) ?_
      refine ex_zret ok_X11_isGroup (mi 12 rfl) rfl (by decide) ?_
      exact ⟨rfl, rfl⟩
    · skip
      refine ex_iload_n ok_X11_isGroup (mi 5 rfl) rfl ?_
      refine ex_callSr (As := [_]) ok_X11_isGroup (mi 6 rfl) rfl (m_bitCount hst) rfl rfl rfl (by decide) (Nat.le_of_ble_eq_true rfl) (by decide) ?_
      refine ex_iconst ok_X11_isGroup (mi 7 rfl) ?_
      refine ex_icmp_gt (tgt := 23) ok_X11_isGroup (mi 8 rfl) rfl (fun h16 => ?_) (fun h16 => ?_)
      · skip
        refine ex_iconst ok_X11_isGroup (mi 11 rfl) ?_
        refine ex_zret ok_X11_isGroup (mi 12 rfl) rfl (by decide) ?_
        exact ⟨rfl, rfl⟩
      · skip
        refine ex_iconst ok_X11_isGroup (mi 9 rfl) ?_
        refine ex_goto (tgt := 24) ok_X11_isGroup (mi 10 rfl) rfl ?_
        refine ex_zret ok_X11_isGroup (mi 12 rfl) rfl (by decide) ?_
        exact absurd ⟨by rw [← Int32.not_le]; exact h1, by rw [← Int32.not_le]; exact h8, by rw [← Int32.not_lt]; exact h16⟩ k
def okS (v : Int32) : Prop := 0 < v ∧ v < nI 512 ∧ bcE v = nI 3
theorem m_isSet1 {G : GE} (hst : (ge_l G).stackTraces = false) {h : GT} {v : Int32} (k : okS v) : ex_M G 2 0 0 my_X11_isSet [.int v] h (rv (some (.int (nI 1))) h) := by
  refine ex_M_of ok_X11_isSet cw_X11_isSet rfl hst (Nat.le_of_ble_eq_true rfl) ?_
  refine ex_iload_n ok_X11_isSet (mi 0 rfl) rfl ?_
  refine ex_if_le (tgt := 23) ok_X11_isSet (mi 1 rfl) rfl (fun h1 => False.elim (absurd k.1 (by rw [Int32.not_lt]; exact h1))) (fun h1 => ?_)
  refine ex_iload_n ok_X11_isSet (mi 2 rfl) rfl ?_
  refine ex_sipush ok_X11_isSet (mi 3 rfl) ?_
  refine ex_icmp_ge (tgt := 23) ok_X11_isSet (mi 4 rfl) rfl (fun h8 => False.elim (absurd k.2.1 (by rw [Int32.not_lt]; exact h8))) (fun h8 => ?_)
  refine ex_iload_n ok_X11_isSet (mi 5 rfl) rfl ?_
  refine ex_callSr (As := [_]) ok_X11_isSet (mi 6 rfl) rfl (m_bitCount hst) rfl rfl rfl (by decide) (Nat.le_of_ble_eq_true rfl) (by decide) ?_
  refine ex_iconst ok_X11_isSet (mi 7 rfl) ?_
  refine ex_icmp_ne (tgt := 23) ok_X11_isSet (mi 8 rfl) rfl (fun h16 => False.elim (h16 k.2.2)) (fun h16 => ?_)
  refine ex_iconst ok_X11_isSet (mi 9 rfl) ?_
  refine ex_goto (tgt := 24) ok_X11_isSet (mi 10 rfl) rfl ?_
  refine ex_zret ok_X11_isSet (mi 12 rfl) rfl (by decide) ?_
  exact ⟨inlI (by decide), rfl⟩
theorem m_isSet0 {G : GE} (hst : (ge_l G).stackTraces = false) {h : GT} {v : Int32} (k : ¬ okS v) : ex_M G 2 0 0 my_X11_isSet [.int v] h (rv (some (.int (nI 0))) h) := by
  refine ex_M_of ok_X11_isSet cw_X11_isSet rfl hst (Nat.le_of_ble_eq_true rfl) ?_
  refine ex_iload_n ok_X11_isSet (mi 0 rfl) rfl ?_
  refine ex_if_le (tgt := 23) ok_X11_isSet (mi 1 rfl) rfl (fun h1 => ?_) (fun h1 => ?_)
  · skip
    refine ex_iconst ok_X11_isSet (mi 11 rfl) ?_
    refine ex_zret ok_X11_isSet (mi 12 rfl) rfl (by decide) ?_
    exact ⟨rfl, rfl⟩
  · skip
    refine ex_iload_n ok_X11_isSet (mi 2 rfl) rfl ?_
    refine ex_sipush ok_X11_isSet (mi 3 rfl) ?_
    refine ex_icmp_ge (tgt := 23) ok_X11_isSet (mi 4 rfl) rfl (fun h8 => ?_) (fun h8 => ?_)
    · skip
      refine ex_iconst ok_X11_isSet (mi 11 rfl) ?_
      refine ex_zret ok_X11_isSet (mi 12 rfl) rfl (by decide) ?_
      exact ⟨rfl, rfl⟩
    · skip
      refine ex_iload_n ok_X11_isSet (mi 5 rfl) rfl ?_
      refine ex_callSr (As := [_]) ok_X11_isSet (mi 6 rfl) rfl (m_bitCount hst) rfl rfl rfl (by decide) (Nat.le_of_ble_eq_true rfl) (by decide) ?_
      refine ex_iconst ok_X11_isSet (mi 7 rfl) ?_
      refine ex_icmp_ne (tgt := 23) ok_X11_isSet (mi 8 rfl) rfl (fun h16 => ?_) (fun h16 => ?_)
      · skip
        refine ex_iconst ok_X11_isSet (mi 11 rfl) ?_
        refine ex_zret ok_X11_isSet (mi 12 rfl) rfl (by decide) ?_
        exact ⟨rfl, rfl⟩
      · skip
        refine ex_iconst ok_X11_isSet (mi 9 rfl) ?_
        refine ex_goto (tgt := 24) ok_X11_isSet (mi 10 rfl) rfl ?_
        refine ex_zret ok_X11_isSet (mi 12 rfl) rfl (by decide) ?_
        exact absurd ⟨by rw [← Int32.not_le]; exact h1, by rw [← Int32.not_le]; exact h8, h16⟩ k
def TZ : List (Nat × Nat × Nat) × List (Nat × Nat × Nat) := ([(0, 50, 10)], [])
def TV : List (Nat × Nat × Nat) × List (Nat × Nat × Nat) := ([(0, 50, 16)], [])
theorem bc0 : bcE (nI 0) = nI 0 := by decide +kernel
theorem m_bitCount0 {G : GE} (hst : (ge_l G).stackTraces = false) {h : GT} : ex_M G 1 0 0 my_J6_bitCount_0f7a4 [.int (nI 0)] h (rv (some (.int (nI 0))) h) := by
  have k := m_bitCount (G := G) (h := h) (v := nI 0) hst
  rw [bc0] at k
  exact k
theorem m_X7_size0 {G : GE} (hst : (ge_l G).stackTraces = false) {x : Nat} {h : GT} (hs : sh TZ h x) (ha : tA [(0, 10, nI 0)] h x) : ex_M G 2 0 0 my_X7_size [.ref x] h (rv (some (.int (nI 0))) h) := by
  refine ex_M_of ok_X7_size cw_X7_size rfl hst (Nat.le_of_ble_eq_true rfl) ?_
  refine ex_iconst ok_X7_size (mi 0 rfl) ?_
  refine ex_istore_n ok_X7_size (mi 1 rfl) ?_
  refine ex_iconst ok_X7_size (mi 2 rfl) ?_
  refine ex_istore_n ok_X7_size (mi 3 rfl) ?_
  refine ex_iload_n ok_X7_size (mi 4 rfl) rfl ?_
  refine ex_bipush ok_X7_size (mi 5 rfl) ?_
  refine ex_icmp_ge (tgt := 25) ok_X7_size (mi 6 rfl) rfl (fun hn => absurd hn (by decide)) (fun _ => ?_)
  refine ex_iload_n ok_X7_size (mi 7 rfl) rfl ?_
  refine ex_aload_n ok_X7_size (mi 8 rfl) rfl ?_
  refine ex_iload_n ok_X7_size (mi 9 rfl) rfl ?_
  refine ex_ialdx ok_X7_size (mi 10 rfl) (Or.inl (fk hs 0 rfl)) (fn hs 0 rfl) (pk_in 0 10 (by decide)) (fa (j := 0) ha 0 rfl (by decide)) ?_
  refine ex_callSr (As := [_]) ok_X7_size (mi 11 rfl) rfl (m_bitCount0 hst) rfl rfl rfl (by decide) (Nat.le_of_ble_eq_true rfl) (by decide) ?_
  refine ex_iadd ok_X7_size (mi 12 rfl) ?_
  refine ex_top (w := (nI 0)) (by decide) ?_
  refine ex_istore_n ok_X7_size (mi 13 rfl) ?_
  refine ex_iincx (w := (nI 1)) ok_X7_size (mi 14 rfl) rfl (by decide) ?_
  refine ex_goto (tgt := 4) ok_X7_size (mi 15 rfl) rfl ?_
  refine ex_ls (ls' := [(0, .ref x), (1, .int (nI 0)), (2, .int (nI 1))]) ⟨rfl, rfl, rfl, trivial⟩ ?_
  refine ex_iload_n ok_X7_size (mi 4 rfl) rfl ?_
  refine ex_bipush ok_X7_size (mi 5 rfl) ?_
  refine ex_icmp_ge (tgt := 25) ok_X7_size (mi 6 rfl) rfl (fun hn => absurd hn (by decide)) (fun _ => ?_)
  refine ex_iload_n ok_X7_size (mi 7 rfl) rfl ?_
  refine ex_aload_n ok_X7_size (mi 8 rfl) rfl ?_
  refine ex_iload_n ok_X7_size (mi 9 rfl) rfl ?_
  refine ex_ialdx ok_X7_size (mi 10 rfl) (Or.inl (fk hs 0 rfl)) (fn hs 0 rfl) (pk_in 1 10 (by decide)) (fa (j := 1) ha 0 rfl (by decide)) ?_
  refine ex_callSr (As := [_]) ok_X7_size (mi 11 rfl) rfl (m_bitCount0 hst) rfl rfl rfl (by decide) (Nat.le_of_ble_eq_true rfl) (by decide) ?_
  refine ex_iadd ok_X7_size (mi 12 rfl) ?_
  refine ex_top (w := (nI 0)) (by decide) ?_
  refine ex_istore_n ok_X7_size (mi 13 rfl) ?_
  refine ex_iincx (w := (nI 2)) ok_X7_size (mi 14 rfl) rfl (by decide) ?_
  refine ex_goto (tgt := 4) ok_X7_size (mi 15 rfl) rfl ?_
  refine ex_ls (ls' := [(0, .ref x), (1, .int (nI 0)), (2, .int (nI 2))]) ⟨rfl, rfl, rfl, trivial⟩ ?_
  refine ex_iload_n ok_X7_size (mi 4 rfl) rfl ?_
  refine ex_bipush ok_X7_size (mi 5 rfl) ?_
  refine ex_icmp_ge (tgt := 25) ok_X7_size (mi 6 rfl) rfl (fun hn => absurd hn (by decide)) (fun _ => ?_)
  refine ex_iload_n ok_X7_size (mi 7 rfl) rfl ?_
  refine ex_aload_n ok_X7_size (mi 8 rfl) rfl ?_
  refine ex_iload_n ok_X7_size (mi 9 rfl) rfl ?_
  refine ex_ialdx ok_X7_size (mi 10 rfl) (Or.inl (fk hs 0 rfl)) (fn hs 0 rfl) (pk_in 2 10 (by decide)) (fa (j := 2) ha 0 rfl (by decide)) ?_
  refine ex_callSr (As := [_]) ok_X7_size (mi 11 rfl) rfl (m_bitCount0 hst) rfl rfl rfl (by decide) (Nat.le_of_ble_eq_true rfl) (by decide) ?_
  refine ex_iadd ok_X7_size (mi 12 rfl) ?_
  refine ex_top (w := (nI 0)) (by decide) ?_
  refine ex_istore_n ok_X7_size (mi 13 rfl) ?_
  refine ex_iincx (w := (nI 3)) ok_X7_size (mi 14 rfl) rfl (by decide) ?_
  refine ex_goto (tgt := 4) ok_X7_size (mi 15 rfl) rfl ?_
  refine ex_ls (ls' := [(0, .ref x), (1, .int (nI 0)), (2, .int (nI 3))]) ⟨rfl, rfl, rfl, trivial⟩ ?_
  refine ex_iload_n ok_X7_size (mi 4 rfl) rfl ?_
  refine ex_bipush ok_X7_size (mi 5 rfl) ?_
  refine ex_icmp_ge (tgt := 25) ok_X7_size (mi 6 rfl) rfl (fun hn => absurd hn (by decide)) (fun _ => ?_)
  refine ex_iload_n ok_X7_size (mi 7 rfl) rfl ?_
  refine ex_aload_n ok_X7_size (mi 8 rfl) rfl ?_
  refine ex_iload_n ok_X7_size (mi 9 rfl) rfl ?_
  refine ex_ialdx ok_X7_size (mi 10 rfl) (Or.inl (fk hs 0 rfl)) (fn hs 0 rfl) (pk_in 3 10 (by decide)) (fa (j := 3) ha 0 rfl (by decide)) ?_
  refine ex_callSr (As := [_]) ok_X7_size (mi 11 rfl) rfl (m_bitCount0 hst) rfl rfl rfl (by decide) (Nat.le_of_ble_eq_true rfl) (by decide) ?_
  refine ex_iadd ok_X7_size (mi 12 rfl) ?_
  refine ex_top (w := (nI 0)) (by decide) ?_
  refine ex_istore_n ok_X7_size (mi 13 rfl) ?_
  refine ex_iincx (w := (nI 4)) ok_X7_size (mi 14 rfl) rfl (by decide) ?_
  refine ex_goto (tgt := 4) ok_X7_size (mi 15 rfl) rfl ?_
  refine ex_ls (ls' := [(0, .ref x), (1, .int (nI 0)), (2, .int (nI 4))]) ⟨rfl, rfl, rfl, trivial⟩ ?_
  refine ex_iload_n ok_X7_size (mi 4 rfl) rfl ?_
  refine ex_bipush ok_X7_size (mi 5 rfl) ?_
  refine ex_icmp_ge (tgt := 25) ok_X7_size (mi 6 rfl) rfl (fun hn => absurd hn (by decide)) (fun _ => ?_)
  refine ex_iload_n ok_X7_size (mi 7 rfl) rfl ?_
  refine ex_aload_n ok_X7_size (mi 8 rfl) rfl ?_
  refine ex_iload_n ok_X7_size (mi 9 rfl) rfl ?_
  refine ex_ialdx ok_X7_size (mi 10 rfl) (Or.inl (fk hs 0 rfl)) (fn hs 0 rfl) (pk_in 4 10 (by decide)) (fa (j := 4) ha 0 rfl (by decide)) ?_
  refine ex_callSr (As := [_]) ok_X7_size (mi 11 rfl) rfl (m_bitCount0 hst) rfl rfl rfl (by decide) (Nat.le_of_ble_eq_true rfl) (by decide) ?_
  refine ex_iadd ok_X7_size (mi 12 rfl) ?_
  refine ex_top (w := (nI 0)) (by decide) ?_
  refine ex_istore_n ok_X7_size (mi 13 rfl) ?_
  refine ex_iincx (w := (nI 5)) ok_X7_size (mi 14 rfl) rfl (by decide) ?_
  refine ex_goto (tgt := 4) ok_X7_size (mi 15 rfl) rfl ?_
  refine ex_ls (ls' := [(0, .ref x), (1, .int (nI 0)), (2, .int (nI 5))]) ⟨rfl, rfl, rfl, trivial⟩ ?_
  refine ex_iload_n ok_X7_size (mi 4 rfl) rfl ?_
  refine ex_bipush ok_X7_size (mi 5 rfl) ?_
  refine ex_icmp_ge (tgt := 25) ok_X7_size (mi 6 rfl) rfl (fun hn => absurd hn (by decide)) (fun _ => ?_)
  refine ex_iload_n ok_X7_size (mi 7 rfl) rfl ?_
  refine ex_aload_n ok_X7_size (mi 8 rfl) rfl ?_
  refine ex_iload_n ok_X7_size (mi 9 rfl) rfl ?_
  refine ex_ialdx ok_X7_size (mi 10 rfl) (Or.inl (fk hs 0 rfl)) (fn hs 0 rfl) (pk_in 5 10 (by decide)) (fa (j := 5) ha 0 rfl (by decide)) ?_
  refine ex_callSr (As := [_]) ok_X7_size (mi 11 rfl) rfl (m_bitCount0 hst) rfl rfl rfl (by decide) (Nat.le_of_ble_eq_true rfl) (by decide) ?_
  refine ex_iadd ok_X7_size (mi 12 rfl) ?_
  refine ex_top (w := (nI 0)) (by decide) ?_
  refine ex_istore_n ok_X7_size (mi 13 rfl) ?_
  refine ex_iincx (w := (nI 6)) ok_X7_size (mi 14 rfl) rfl (by decide) ?_
  refine ex_goto (tgt := 4) ok_X7_size (mi 15 rfl) rfl ?_
  refine ex_ls (ls' := [(0, .ref x), (1, .int (nI 0)), (2, .int (nI 6))]) ⟨rfl, rfl, rfl, trivial⟩ ?_
  refine ex_iload_n ok_X7_size (mi 4 rfl) rfl ?_
  refine ex_bipush ok_X7_size (mi 5 rfl) ?_
  refine ex_icmp_ge (tgt := 25) ok_X7_size (mi 6 rfl) rfl (fun hn => absurd hn (by decide)) (fun _ => ?_)
  refine ex_iload_n ok_X7_size (mi 7 rfl) rfl ?_
  refine ex_aload_n ok_X7_size (mi 8 rfl) rfl ?_
  refine ex_iload_n ok_X7_size (mi 9 rfl) rfl ?_
  refine ex_ialdx ok_X7_size (mi 10 rfl) (Or.inl (fk hs 0 rfl)) (fn hs 0 rfl) (pk_in 6 10 (by decide)) (fa (j := 6) ha 0 rfl (by decide)) ?_
  refine ex_callSr (As := [_]) ok_X7_size (mi 11 rfl) rfl (m_bitCount0 hst) rfl rfl rfl (by decide) (Nat.le_of_ble_eq_true rfl) (by decide) ?_
  refine ex_iadd ok_X7_size (mi 12 rfl) ?_
  refine ex_top (w := (nI 0)) (by decide) ?_
  refine ex_istore_n ok_X7_size (mi 13 rfl) ?_
  refine ex_iincx (w := (nI 7)) ok_X7_size (mi 14 rfl) rfl (by decide) ?_
  refine ex_goto (tgt := 4) ok_X7_size (mi 15 rfl) rfl ?_
  refine ex_ls (ls' := [(0, .ref x), (1, .int (nI 0)), (2, .int (nI 7))]) ⟨rfl, rfl, rfl, trivial⟩ ?_
  refine ex_iload_n ok_X7_size (mi 4 rfl) rfl ?_
  refine ex_bipush ok_X7_size (mi 5 rfl) ?_
  refine ex_icmp_ge (tgt := 25) ok_X7_size (mi 6 rfl) rfl (fun hn => absurd hn (by decide)) (fun _ => ?_)
  refine ex_iload_n ok_X7_size (mi 7 rfl) rfl ?_
  refine ex_aload_n ok_X7_size (mi 8 rfl) rfl ?_
  refine ex_iload_n ok_X7_size (mi 9 rfl) rfl ?_
  refine ex_ialdx ok_X7_size (mi 10 rfl) (Or.inl (fk hs 0 rfl)) (fn hs 0 rfl) (pk_in 7 10 (by decide)) (fa (j := 7) ha 0 rfl (by decide)) ?_
  refine ex_callSr (As := [_]) ok_X7_size (mi 11 rfl) rfl (m_bitCount0 hst) rfl rfl rfl (by decide) (Nat.le_of_ble_eq_true rfl) (by decide) ?_
  refine ex_iadd ok_X7_size (mi 12 rfl) ?_
  refine ex_top (w := (nI 0)) (by decide) ?_
  refine ex_istore_n ok_X7_size (mi 13 rfl) ?_
  refine ex_iincx (w := (nI 8)) ok_X7_size (mi 14 rfl) rfl (by decide) ?_
  refine ex_goto (tgt := 4) ok_X7_size (mi 15 rfl) rfl ?_
  refine ex_ls (ls' := [(0, .ref x), (1, .int (nI 0)), (2, .int (nI 8))]) ⟨rfl, rfl, rfl, trivial⟩ ?_
  refine ex_iload_n ok_X7_size (mi 4 rfl) rfl ?_
  refine ex_bipush ok_X7_size (mi 5 rfl) ?_
  refine ex_icmp_ge (tgt := 25) ok_X7_size (mi 6 rfl) rfl (fun hn => absurd hn (by decide)) (fun _ => ?_)
  refine ex_iload_n ok_X7_size (mi 7 rfl) rfl ?_
  refine ex_aload_n ok_X7_size (mi 8 rfl) rfl ?_
  refine ex_iload_n ok_X7_size (mi 9 rfl) rfl ?_
  refine ex_ialdx ok_X7_size (mi 10 rfl) (Or.inl (fk hs 0 rfl)) (fn hs 0 rfl) (pk_in 8 10 (by decide)) (fa (j := 8) ha 0 rfl (by decide)) ?_
  refine ex_callSr (As := [_]) ok_X7_size (mi 11 rfl) rfl (m_bitCount0 hst) rfl rfl rfl (by decide) (Nat.le_of_ble_eq_true rfl) (by decide) ?_
  refine ex_iadd ok_X7_size (mi 12 rfl) ?_
  refine ex_top (w := (nI 0)) (by decide) ?_
  refine ex_istore_n ok_X7_size (mi 13 rfl) ?_
  refine ex_iincx (w := (nI 9)) ok_X7_size (mi 14 rfl) rfl (by decide) ?_
  refine ex_goto (tgt := 4) ok_X7_size (mi 15 rfl) rfl ?_
  refine ex_ls (ls' := [(0, .ref x), (1, .int (nI 0)), (2, .int (nI 9))]) ⟨rfl, rfl, rfl, trivial⟩ ?_
  refine ex_iload_n ok_X7_size (mi 4 rfl) rfl ?_
  refine ex_bipush ok_X7_size (mi 5 rfl) ?_
  refine ex_icmp_ge (tgt := 25) ok_X7_size (mi 6 rfl) rfl (fun hn => absurd hn (by decide)) (fun _ => ?_)
  refine ex_iload_n ok_X7_size (mi 7 rfl) rfl ?_
  refine ex_aload_n ok_X7_size (mi 8 rfl) rfl ?_
  refine ex_iload_n ok_X7_size (mi 9 rfl) rfl ?_
  refine ex_ialdx ok_X7_size (mi 10 rfl) (Or.inl (fk hs 0 rfl)) (fn hs 0 rfl) (pk_in 9 10 (by decide)) (fa (j := 9) ha 0 rfl (by decide)) ?_
  refine ex_callSr (As := [_]) ok_X7_size (mi 11 rfl) rfl (m_bitCount0 hst) rfl rfl rfl (by decide) (Nat.le_of_ble_eq_true rfl) (by decide) ?_
  refine ex_iadd ok_X7_size (mi 12 rfl) ?_
  refine ex_top (w := (nI 0)) (by decide) ?_
  refine ex_istore_n ok_X7_size (mi 13 rfl) ?_
  refine ex_iincx (w := (nI 10)) ok_X7_size (mi 14 rfl) rfl (by decide) ?_
  refine ex_goto (tgt := 4) ok_X7_size (mi 15 rfl) rfl ?_
  refine ex_ls (ls' := [(0, .ref x), (1, .int (nI 0)), (2, .int (nI 10))]) ⟨rfl, rfl, rfl, trivial⟩ ?_
  refine ex_iload_n ok_X7_size (mi 4 rfl) rfl ?_
  refine ex_bipush ok_X7_size (mi 5 rfl) ?_
  refine ex_icmp_ge (tgt := 25) ok_X7_size (mi 6 rfl) rfl (fun _ => ?_) (fun hn => absurd (by decide) hn)
  refine ex_iload_n ok_X7_size (mi 16 rfl) rfl ?_
  refine ex_iret ok_X7_size (mi 17 rfl) rfl ?_
  exact ⟨inlI (by decide), rfl⟩
theorem m_votesIn0 {G : GE} (hst : (ge_l G).stackTraces = false) {x : Nat} {h : GT} (hs : sh TV h x) (ha : tA [(0, 16, -1)] h x) : ex_M G 1 0 0 my_X10_votesIn [.ref x] h (rv (some (.int (nI 0))) h) := by
  refine ex_M_of ok_X10_votesIn cw_X10_votesIn rfl hst (Nat.le_of_ble_eq_true rfl) ?_
  refine ex_iconst ok_X10_votesIn (mi 0 rfl) ?_
  refine ex_istore_n ok_X10_votesIn (mi 1 rfl) ?_
  refine ex_iconst ok_X10_votesIn (mi 2 rfl) ?_
  refine ex_istore_n ok_X10_votesIn (mi 3 rfl) ?_
  refine ex_iload_n ok_X10_votesIn (mi 4 rfl) rfl ?_
  refine ex_bipush ok_X10_votesIn (mi 5 rfl) ?_
  refine ex_icmp_ge (tgt := 26) ok_X10_votesIn (mi 6 rfl) rfl (fun hn => absurd hn (by decide)) (fun _ => ?_)
  refine ex_aload_n ok_X10_votesIn (mi 7 rfl) rfl ?_
  refine ex_iload_n ok_X10_votesIn (mi 8 rfl) rfl ?_
  refine ex_ialdx ok_X10_votesIn (mi 9 rfl) (Or.inl (fk hs 0 rfl)) (fn hs 0 rfl) (pk_in 0 16 (by decide)) (fa (j := 0) ha 0 rfl (by decide)) ?_
  refine ex_iconst ok_X10_votesIn (mi 10 rfl) ?_
  refine ex_icmp_eq (tgt := 20) ok_X10_votesIn (mi 11 rfl) rfl (fun _ => ?_) (fun hn => absurd (by decide) hn)
  refine ex_iincx (w := (nI 1)) ok_X10_votesIn (mi 13 rfl) rfl (by decide) ?_
  refine ex_goto (tgt := 4) ok_X10_votesIn (mi 14 rfl) rfl ?_
  refine ex_ls (ls' := [(0, .ref x), (1, .int (nI 0)), (2, .int (nI 1))]) ⟨rfl, rfl, rfl, trivial⟩ ?_
  refine ex_iload_n ok_X10_votesIn (mi 4 rfl) rfl ?_
  refine ex_bipush ok_X10_votesIn (mi 5 rfl) ?_
  refine ex_icmp_ge (tgt := 26) ok_X10_votesIn (mi 6 rfl) rfl (fun hn => absurd hn (by decide)) (fun _ => ?_)
  refine ex_aload_n ok_X10_votesIn (mi 7 rfl) rfl ?_
  refine ex_iload_n ok_X10_votesIn (mi 8 rfl) rfl ?_
  refine ex_ialdx ok_X10_votesIn (mi 9 rfl) (Or.inl (fk hs 0 rfl)) (fn hs 0 rfl) (pk_in 1 16 (by decide)) (fa (j := 1) ha 0 rfl (by decide)) ?_
  refine ex_iconst ok_X10_votesIn (mi 10 rfl) ?_
  refine ex_icmp_eq (tgt := 20) ok_X10_votesIn (mi 11 rfl) rfl (fun _ => ?_) (fun hn => absurd (by decide) hn)
  refine ex_iincx (w := (nI 2)) ok_X10_votesIn (mi 13 rfl) rfl (by decide) ?_
  refine ex_goto (tgt := 4) ok_X10_votesIn (mi 14 rfl) rfl ?_
  refine ex_ls (ls' := [(0, .ref x), (1, .int (nI 0)), (2, .int (nI 2))]) ⟨rfl, rfl, rfl, trivial⟩ ?_
  refine ex_iload_n ok_X10_votesIn (mi 4 rfl) rfl ?_
  refine ex_bipush ok_X10_votesIn (mi 5 rfl) ?_
  refine ex_icmp_ge (tgt := 26) ok_X10_votesIn (mi 6 rfl) rfl (fun hn => absurd hn (by decide)) (fun _ => ?_)
  refine ex_aload_n ok_X10_votesIn (mi 7 rfl) rfl ?_
  refine ex_iload_n ok_X10_votesIn (mi 8 rfl) rfl ?_
  refine ex_ialdx ok_X10_votesIn (mi 9 rfl) (Or.inl (fk hs 0 rfl)) (fn hs 0 rfl) (pk_in 2 16 (by decide)) (fa (j := 2) ha 0 rfl (by decide)) ?_
  refine ex_iconst ok_X10_votesIn (mi 10 rfl) ?_
  refine ex_icmp_eq (tgt := 20) ok_X10_votesIn (mi 11 rfl) rfl (fun _ => ?_) (fun hn => absurd (by decide) hn)
  refine ex_iincx (w := (nI 3)) ok_X10_votesIn (mi 13 rfl) rfl (by decide) ?_
  refine ex_goto (tgt := 4) ok_X10_votesIn (mi 14 rfl) rfl ?_
  refine ex_ls (ls' := [(0, .ref x), (1, .int (nI 0)), (2, .int (nI 3))]) ⟨rfl, rfl, rfl, trivial⟩ ?_
  refine ex_iload_n ok_X10_votesIn (mi 4 rfl) rfl ?_
  refine ex_bipush ok_X10_votesIn (mi 5 rfl) ?_
  refine ex_icmp_ge (tgt := 26) ok_X10_votesIn (mi 6 rfl) rfl (fun hn => absurd hn (by decide)) (fun _ => ?_)
  refine ex_aload_n ok_X10_votesIn (mi 7 rfl) rfl ?_
  refine ex_iload_n ok_X10_votesIn (mi 8 rfl) rfl ?_
  refine ex_ialdx ok_X10_votesIn (mi 9 rfl) (Or.inl (fk hs 0 rfl)) (fn hs 0 rfl) (pk_in 3 16 (by decide)) (fa (j := 3) ha 0 rfl (by decide)) ?_
  refine ex_iconst ok_X10_votesIn (mi 10 rfl) ?_
  refine ex_icmp_eq (tgt := 20) ok_X10_votesIn (mi 11 rfl) rfl (fun _ => ?_) (fun hn => absurd (by decide) hn)
  refine ex_iincx (w := (nI 4)) ok_X10_votesIn (mi 13 rfl) rfl (by decide) ?_
  refine ex_goto (tgt := 4) ok_X10_votesIn (mi 14 rfl) rfl ?_
  refine ex_ls (ls' := [(0, .ref x), (1, .int (nI 0)), (2, .int (nI 4))]) ⟨rfl, rfl, rfl, trivial⟩ ?_
  refine ex_iload_n ok_X10_votesIn (mi 4 rfl) rfl ?_
  refine ex_bipush ok_X10_votesIn (mi 5 rfl) ?_
  refine ex_icmp_ge (tgt := 26) ok_X10_votesIn (mi 6 rfl) rfl (fun hn => absurd hn (by decide)) (fun _ => ?_)
  refine ex_aload_n ok_X10_votesIn (mi 7 rfl) rfl ?_
  refine ex_iload_n ok_X10_votesIn (mi 8 rfl) rfl ?_
  refine ex_ialdx ok_X10_votesIn (mi 9 rfl) (Or.inl (fk hs 0 rfl)) (fn hs 0 rfl) (pk_in 4 16 (by decide)) (fa (j := 4) ha 0 rfl (by decide)) ?_
  refine ex_iconst ok_X10_votesIn (mi 10 rfl) ?_
  refine ex_icmp_eq (tgt := 20) ok_X10_votesIn (mi 11 rfl) rfl (fun _ => ?_) (fun hn => absurd (by decide) hn)
  refine ex_iincx (w := (nI 5)) ok_X10_votesIn (mi 13 rfl) rfl (by decide) ?_
  refine ex_goto (tgt := 4) ok_X10_votesIn (mi 14 rfl) rfl ?_
  refine ex_ls (ls' := [(0, .ref x), (1, .int (nI 0)), (2, .int (nI 5))]) ⟨rfl, rfl, rfl, trivial⟩ ?_
  refine ex_iload_n ok_X10_votesIn (mi 4 rfl) rfl ?_
  refine ex_bipush ok_X10_votesIn (mi 5 rfl) ?_
  refine ex_icmp_ge (tgt := 26) ok_X10_votesIn (mi 6 rfl) rfl (fun hn => absurd hn (by decide)) (fun _ => ?_)
  refine ex_aload_n ok_X10_votesIn (mi 7 rfl) rfl ?_
  refine ex_iload_n ok_X10_votesIn (mi 8 rfl) rfl ?_
  refine ex_ialdx ok_X10_votesIn (mi 9 rfl) (Or.inl (fk hs 0 rfl)) (fn hs 0 rfl) (pk_in 5 16 (by decide)) (fa (j := 5) ha 0 rfl (by decide)) ?_
  refine ex_iconst ok_X10_votesIn (mi 10 rfl) ?_
  refine ex_icmp_eq (tgt := 20) ok_X10_votesIn (mi 11 rfl) rfl (fun _ => ?_) (fun hn => absurd (by decide) hn)
  refine ex_iincx (w := (nI 6)) ok_X10_votesIn (mi 13 rfl) rfl (by decide) ?_
  refine ex_goto (tgt := 4) ok_X10_votesIn (mi 14 rfl) rfl ?_
  refine ex_ls (ls' := [(0, .ref x), (1, .int (nI 0)), (2, .int (nI 6))]) ⟨rfl, rfl, rfl, trivial⟩ ?_
  refine ex_iload_n ok_X10_votesIn (mi 4 rfl) rfl ?_
  refine ex_bipush ok_X10_votesIn (mi 5 rfl) ?_
  refine ex_icmp_ge (tgt := 26) ok_X10_votesIn (mi 6 rfl) rfl (fun hn => absurd hn (by decide)) (fun _ => ?_)
  refine ex_aload_n ok_X10_votesIn (mi 7 rfl) rfl ?_
  refine ex_iload_n ok_X10_votesIn (mi 8 rfl) rfl ?_
  refine ex_ialdx ok_X10_votesIn (mi 9 rfl) (Or.inl (fk hs 0 rfl)) (fn hs 0 rfl) (pk_in 6 16 (by decide)) (fa (j := 6) ha 0 rfl (by decide)) ?_
  refine ex_iconst ok_X10_votesIn (mi 10 rfl) ?_
  refine ex_icmp_eq (tgt := 20) ok_X10_votesIn (mi 11 rfl) rfl (fun _ => ?_) (fun hn => absurd (by decide) hn)
  refine ex_iincx (w := (nI 7)) ok_X10_votesIn (mi 13 rfl) rfl (by decide) ?_
  refine ex_goto (tgt := 4) ok_X10_votesIn (mi 14 rfl) rfl ?_
  refine ex_ls (ls' := [(0, .ref x), (1, .int (nI 0)), (2, .int (nI 7))]) ⟨rfl, rfl, rfl, trivial⟩ ?_
  refine ex_iload_n ok_X10_votesIn (mi 4 rfl) rfl ?_
  refine ex_bipush ok_X10_votesIn (mi 5 rfl) ?_
  refine ex_icmp_ge (tgt := 26) ok_X10_votesIn (mi 6 rfl) rfl (fun hn => absurd hn (by decide)) (fun _ => ?_)
  refine ex_aload_n ok_X10_votesIn (mi 7 rfl) rfl ?_
  refine ex_iload_n ok_X10_votesIn (mi 8 rfl) rfl ?_
  refine ex_ialdx ok_X10_votesIn (mi 9 rfl) (Or.inl (fk hs 0 rfl)) (fn hs 0 rfl) (pk_in 7 16 (by decide)) (fa (j := 7) ha 0 rfl (by decide)) ?_
  refine ex_iconst ok_X10_votesIn (mi 10 rfl) ?_
  refine ex_icmp_eq (tgt := 20) ok_X10_votesIn (mi 11 rfl) rfl (fun _ => ?_) (fun hn => absurd (by decide) hn)
  refine ex_iincx (w := (nI 8)) ok_X10_votesIn (mi 13 rfl) rfl (by decide) ?_
  refine ex_goto (tgt := 4) ok_X10_votesIn (mi 14 rfl) rfl ?_
  refine ex_ls (ls' := [(0, .ref x), (1, .int (nI 0)), (2, .int (nI 8))]) ⟨rfl, rfl, rfl, trivial⟩ ?_
  refine ex_iload_n ok_X10_votesIn (mi 4 rfl) rfl ?_
  refine ex_bipush ok_X10_votesIn (mi 5 rfl) ?_
  refine ex_icmp_ge (tgt := 26) ok_X10_votesIn (mi 6 rfl) rfl (fun hn => absurd hn (by decide)) (fun _ => ?_)
  refine ex_aload_n ok_X10_votesIn (mi 7 rfl) rfl ?_
  refine ex_iload_n ok_X10_votesIn (mi 8 rfl) rfl ?_
  refine ex_ialdx ok_X10_votesIn (mi 9 rfl) (Or.inl (fk hs 0 rfl)) (fn hs 0 rfl) (pk_in 8 16 (by decide)) (fa (j := 8) ha 0 rfl (by decide)) ?_
  refine ex_iconst ok_X10_votesIn (mi 10 rfl) ?_
  refine ex_icmp_eq (tgt := 20) ok_X10_votesIn (mi 11 rfl) rfl (fun _ => ?_) (fun hn => absurd (by decide) hn)
  refine ex_iincx (w := (nI 9)) ok_X10_votesIn (mi 13 rfl) rfl (by decide) ?_
  refine ex_goto (tgt := 4) ok_X10_votesIn (mi 14 rfl) rfl ?_
  refine ex_ls (ls' := [(0, .ref x), (1, .int (nI 0)), (2, .int (nI 9))]) ⟨rfl, rfl, rfl, trivial⟩ ?_
  refine ex_iload_n ok_X10_votesIn (mi 4 rfl) rfl ?_
  refine ex_bipush ok_X10_votesIn (mi 5 rfl) ?_
  refine ex_icmp_ge (tgt := 26) ok_X10_votesIn (mi 6 rfl) rfl (fun hn => absurd hn (by decide)) (fun _ => ?_)
  refine ex_aload_n ok_X10_votesIn (mi 7 rfl) rfl ?_
  refine ex_iload_n ok_X10_votesIn (mi 8 rfl) rfl ?_
  refine ex_ialdx ok_X10_votesIn (mi 9 rfl) (Or.inl (fk hs 0 rfl)) (fn hs 0 rfl) (pk_in 9 16 (by decide)) (fa (j := 9) ha 0 rfl (by decide)) ?_
  refine ex_iconst ok_X10_votesIn (mi 10 rfl) ?_
  refine ex_icmp_eq (tgt := 20) ok_X10_votesIn (mi 11 rfl) rfl (fun _ => ?_) (fun hn => absurd (by decide) hn)
  refine ex_iincx (w := (nI 10)) ok_X10_votesIn (mi 13 rfl) rfl (by decide) ?_
  refine ex_goto (tgt := 4) ok_X10_votesIn (mi 14 rfl) rfl ?_
  refine ex_ls (ls' := [(0, .ref x), (1, .int (nI 0)), (2, .int (nI 10))]) ⟨rfl, rfl, rfl, trivial⟩ ?_
  refine ex_iload_n ok_X10_votesIn (mi 4 rfl) rfl ?_
  refine ex_bipush ok_X10_votesIn (mi 5 rfl) ?_
  refine ex_icmp_ge (tgt := 26) ok_X10_votesIn (mi 6 rfl) rfl (fun hn => absurd hn (by decide)) (fun _ => ?_)
  refine ex_aload_n ok_X10_votesIn (mi 7 rfl) rfl ?_
  refine ex_iload_n ok_X10_votesIn (mi 8 rfl) rfl ?_
  refine ex_ialdx ok_X10_votesIn (mi 9 rfl) (Or.inl (fk hs 0 rfl)) (fn hs 0 rfl) (pk_in 10 16 (by decide)) (fa (j := 10) ha 0 rfl (by decide)) ?_
  refine ex_iconst ok_X10_votesIn (mi 10 rfl) ?_
  refine ex_icmp_eq (tgt := 20) ok_X10_votesIn (mi 11 rfl) rfl (fun _ => ?_) (fun hn => absurd (by decide) hn)
  refine ex_iincx (w := (nI 11)) ok_X10_votesIn (mi 13 rfl) rfl (by decide) ?_
  refine ex_goto (tgt := 4) ok_X10_votesIn (mi 14 rfl) rfl ?_
  refine ex_ls (ls' := [(0, .ref x), (1, .int (nI 0)), (2, .int (nI 11))]) ⟨rfl, rfl, rfl, trivial⟩ ?_
  refine ex_iload_n ok_X10_votesIn (mi 4 rfl) rfl ?_
  refine ex_bipush ok_X10_votesIn (mi 5 rfl) ?_
  refine ex_icmp_ge (tgt := 26) ok_X10_votesIn (mi 6 rfl) rfl (fun hn => absurd hn (by decide)) (fun _ => ?_)
  refine ex_aload_n ok_X10_votesIn (mi 7 rfl) rfl ?_
  refine ex_iload_n ok_X10_votesIn (mi 8 rfl) rfl ?_
  refine ex_ialdx ok_X10_votesIn (mi 9 rfl) (Or.inl (fk hs 0 rfl)) (fn hs 0 rfl) (pk_in 11 16 (by decide)) (fa (j := 11) ha 0 rfl (by decide)) ?_
  refine ex_iconst ok_X10_votesIn (mi 10 rfl) ?_
  refine ex_icmp_eq (tgt := 20) ok_X10_votesIn (mi 11 rfl) rfl (fun _ => ?_) (fun hn => absurd (by decide) hn)
  refine ex_iincx (w := (nI 12)) ok_X10_votesIn (mi 13 rfl) rfl (by decide) ?_
  refine ex_goto (tgt := 4) ok_X10_votesIn (mi 14 rfl) rfl ?_
  refine ex_ls (ls' := [(0, .ref x), (1, .int (nI 0)), (2, .int (nI 12))]) ⟨rfl, rfl, rfl, trivial⟩ ?_
  refine ex_iload_n ok_X10_votesIn (mi 4 rfl) rfl ?_
  refine ex_bipush ok_X10_votesIn (mi 5 rfl) ?_
  refine ex_icmp_ge (tgt := 26) ok_X10_votesIn (mi 6 rfl) rfl (fun hn => absurd hn (by decide)) (fun _ => ?_)
  refine ex_aload_n ok_X10_votesIn (mi 7 rfl) rfl ?_
  refine ex_iload_n ok_X10_votesIn (mi 8 rfl) rfl ?_
  refine ex_ialdx ok_X10_votesIn (mi 9 rfl) (Or.inl (fk hs 0 rfl)) (fn hs 0 rfl) (pk_in 12 16 (by decide)) (fa (j := 12) ha 0 rfl (by decide)) ?_
  refine ex_iconst ok_X10_votesIn (mi 10 rfl) ?_
  refine ex_icmp_eq (tgt := 20) ok_X10_votesIn (mi 11 rfl) rfl (fun _ => ?_) (fun hn => absurd (by decide) hn)
  refine ex_iincx (w := (nI 13)) ok_X10_votesIn (mi 13 rfl) rfl (by decide) ?_
  refine ex_goto (tgt := 4) ok_X10_votesIn (mi 14 rfl) rfl ?_
  refine ex_ls (ls' := [(0, .ref x), (1, .int (nI 0)), (2, .int (nI 13))]) ⟨rfl, rfl, rfl, trivial⟩ ?_
  refine ex_iload_n ok_X10_votesIn (mi 4 rfl) rfl ?_
  refine ex_bipush ok_X10_votesIn (mi 5 rfl) ?_
  refine ex_icmp_ge (tgt := 26) ok_X10_votesIn (mi 6 rfl) rfl (fun hn => absurd hn (by decide)) (fun _ => ?_)
  refine ex_aload_n ok_X10_votesIn (mi 7 rfl) rfl ?_
  refine ex_iload_n ok_X10_votesIn (mi 8 rfl) rfl ?_
  refine ex_ialdx ok_X10_votesIn (mi 9 rfl) (Or.inl (fk hs 0 rfl)) (fn hs 0 rfl) (pk_in 13 16 (by decide)) (fa (j := 13) ha 0 rfl (by decide)) ?_
  refine ex_iconst ok_X10_votesIn (mi 10 rfl) ?_
  refine ex_icmp_eq (tgt := 20) ok_X10_votesIn (mi 11 rfl) rfl (fun _ => ?_) (fun hn => absurd (by decide) hn)
  refine ex_iincx (w := (nI 14)) ok_X10_votesIn (mi 13 rfl) rfl (by decide) ?_
  refine ex_goto (tgt := 4) ok_X10_votesIn (mi 14 rfl) rfl ?_
  refine ex_ls (ls' := [(0, .ref x), (1, .int (nI 0)), (2, .int (nI 14))]) ⟨rfl, rfl, rfl, trivial⟩ ?_
  refine ex_iload_n ok_X10_votesIn (mi 4 rfl) rfl ?_
  refine ex_bipush ok_X10_votesIn (mi 5 rfl) ?_
  refine ex_icmp_ge (tgt := 26) ok_X10_votesIn (mi 6 rfl) rfl (fun hn => absurd hn (by decide)) (fun _ => ?_)
  refine ex_aload_n ok_X10_votesIn (mi 7 rfl) rfl ?_
  refine ex_iload_n ok_X10_votesIn (mi 8 rfl) rfl ?_
  refine ex_ialdx ok_X10_votesIn (mi 9 rfl) (Or.inl (fk hs 0 rfl)) (fn hs 0 rfl) (pk_in 14 16 (by decide)) (fa (j := 14) ha 0 rfl (by decide)) ?_
  refine ex_iconst ok_X10_votesIn (mi 10 rfl) ?_
  refine ex_icmp_eq (tgt := 20) ok_X10_votesIn (mi 11 rfl) rfl (fun _ => ?_) (fun hn => absurd (by decide) hn)
  refine ex_iincx (w := (nI 15)) ok_X10_votesIn (mi 13 rfl) rfl (by decide) ?_
  refine ex_goto (tgt := 4) ok_X10_votesIn (mi 14 rfl) rfl ?_
  refine ex_ls (ls' := [(0, .ref x), (1, .int (nI 0)), (2, .int (nI 15))]) ⟨rfl, rfl, rfl, trivial⟩ ?_
  refine ex_iload_n ok_X10_votesIn (mi 4 rfl) rfl ?_
  refine ex_bipush ok_X10_votesIn (mi 5 rfl) ?_
  refine ex_icmp_ge (tgt := 26) ok_X10_votesIn (mi 6 rfl) rfl (fun hn => absurd hn (by decide)) (fun _ => ?_)
  refine ex_aload_n ok_X10_votesIn (mi 7 rfl) rfl ?_
  refine ex_iload_n ok_X10_votesIn (mi 8 rfl) rfl ?_
  refine ex_ialdx ok_X10_votesIn (mi 9 rfl) (Or.inl (fk hs 0 rfl)) (fn hs 0 rfl) (pk_in 15 16 (by decide)) (fa (j := 15) ha 0 rfl (by decide)) ?_
  refine ex_iconst ok_X10_votesIn (mi 10 rfl) ?_
  refine ex_icmp_eq (tgt := 20) ok_X10_votesIn (mi 11 rfl) rfl (fun _ => ?_) (fun hn => absurd (by decide) hn)
  refine ex_iincx (w := (nI 16)) ok_X10_votesIn (mi 13 rfl) rfl (by decide) ?_
  refine ex_goto (tgt := 4) ok_X10_votesIn (mi 14 rfl) rfl ?_
  refine ex_ls (ls' := [(0, .ref x), (1, .int (nI 0)), (2, .int (nI 16))]) ⟨rfl, rfl, rfl, trivial⟩ ?_
  refine ex_iload_n ok_X10_votesIn (mi 4 rfl) rfl ?_
  refine ex_bipush ok_X10_votesIn (mi 5 rfl) ?_
  refine ex_icmp_ge (tgt := 26) ok_X10_votesIn (mi 6 rfl) rfl (fun _ => ?_) (fun hn => absurd (by decide) hn)
  refine ex_iload_n ok_X10_votesIn (mi 15 rfl) rfl ?_
  refine ex_iret ok_X10_votesIn (mi 16 rfl) rfl ?_
  exact ⟨inlI (by decide), rfl⟩
theorem div32 {r : Nat} (h : r < 300) : nI r / (Int8.ofInt 32).toInt32 = nI (r / 32) := by
  have k : ∀ r < 300, nI r / (Int8.ofInt 32).toInt32 = nI (r / 32) := by decide +kernel
  exact k r h
theorem sh0 (y : Int32) : nI 0 >>> (y &&& 31) &&& nI 1 = nI 0 := by
  have : nI 0 >>> (y &&& 31) = nI 0 := by
    have : nI 0 = 0 := by decide
    rw [this]
    exact Int32.zero_shiftRight
  rw [this]; decide
theorem m_has0 {G : GE} (hst : (ge_l G).stackTraces = false) {x : Nat} {h : GT} (hs : sh TZ h x) (ha : tA [(0, 10, nI 0)] h x) {r : Nat} (hr : r < 300) : ex_M G 1 0 0 my_X7_has [.ref x, .int (nI r)] h (rv (some (.int (nI 0))) h) := by
  refine ex_M_of ok_X7_has cw_X7_has rfl hst (Nat.le_of_ble_eq_true rfl) ?_
  refine ex_iload_n ok_X7_has (mi 0 rfl) rfl ?_
  refine ex_if_lt (tgt := 31) ok_X7_has (mi 1 rfl) rfl (fun h1 => False.elim (nI_pos (by omega) h1)) (fun h1 => ?_)
  refine ex_iload_n ok_X7_has (mi 2 rfl) rfl ?_
  refine ex_sipush ok_X7_has (mi 3 rfl) ?_
  refine ex_icmp_ge (tgt := 31) ok_X7_has (mi 4 rfl) rfl (fun h8 => False.elim (absurd h8 (nI_ge hr (by decide)))) (fun h8 => ?_)
  refine ex_aload_n ok_X7_has (mi 5 rfl) rfl ?_
  refine ex_iload_n ok_X7_has (mi 6 rfl) rfl ?_
  refine ex_bipush ok_X7_has (mi 7 rfl) ?_
  refine ex_idiv ok_X7_has (mi 8 rfl) (by decide) ?_
  refine ex_top (w := (nI (r / 32))) (div32 hr) ?_
  refine ex_ialdx ok_X7_has (mi 9 rfl) (Or.inl (fk hs 0 rfl)) (fn hs 0 rfl) (vp_in_nI (by omega) (by decide)) (fa ha 0 rfl (by rw [nI_clamp (by omega)]; omega)) ?_
  refine ex_iload_n ok_X7_has (mi 10 rfl) rfl ?_
  refine ex_bipush ok_X7_has (mi 11 rfl) ?_
  refine ex_irem ok_X7_has (mi 12 rfl) (by decide) ?_
  refine ex_ishr ok_X7_has (mi 13 rfl) ?_
  refine ex_iconst ok_X7_has (mi 14 rfl) ?_
  refine ex_iand ok_X7_has (mi 15 rfl) ?_
  refine ex_top (w := (nI 0)) (sh0 _) ?_
  refine ex_if_eq (tgt := 31) ok_X7_has (mi 16 rfl) rfl (fun _ => ?_) (fun hn => absurd (by decide) hn)
  refine ex_iconst ok_X7_has (mi 19 rfl) ?_
  refine ex_zret ok_X7_has (mi 20 rfl) rfl (by decide) ?_
  exact ⟨inlI (by decide), rfl⟩
theorem lp_at {G : GE} (hst : (ge_l G).stackTraces = false) {x : Nat} {h : GT} {i : Int32} {Q : RT → GT → Prop} (hs : sh TZ h x) (ha : tA [(0, 10, nI 0)] h x) (hq : Q (.inl (some (.int (-1)))) h) :
    ∀ n r : Nat, r + n = 300 → ex_W G 2 0 0 M_X7_at 4 [(0, .ref x), (1, .int i), (2, .int (nI 0)), (3, .int (nI r))] [] h Q := by
  intro n
  induction n with
  | zero =>
    intro r hr
    obtain rfl : r = 300 := by omega
    refine ex_iload_n ok_X7_at (mi 4 rfl) rfl ?_
    refine ex_sipush ok_X7_at (mi 5 rfl) ?_
    refine ex_icmp_ge (tgt := 35) ok_X7_at (mi 6 rfl) rfl (fun _ => ?_) (fun hn => absurd (by decide) hn)
    refine ex_iconst ok_X7_at (mi 19 rfl) ?_
    refine ex_iret ok_X7_at (mi 20 rfl) rfl ?_
    exact hq
  | succ n ih =>
    intro r hrn
    have hr : r < 300 := by omega
    refine ex_iload_n ok_X7_at (mi 4 rfl) rfl ?_
    refine ex_sipush ok_X7_at (mi 5 rfl) ?_
    refine ex_icmp_ge (tgt := 35) ok_X7_at (mi 6 rfl) rfl (fun h8 => False.elim (absurd h8 (nI_ge hr (by decide)))) (fun h8 => ?_)
    refine ex_aload_n ok_X7_at (mi 7 rfl) rfl ?_
    refine ex_iload_n ok_X7_at (mi 8 rfl) rfl ?_
    refine ex_callSr (As := [_, _]) ok_X7_at (mi 9 rfl) rfl (m_has0 hst hs ha hr) rfl rfl rfl (by decide) (Nat.le_of_ble_eq_true rfl) (by decide) ?_
    refine ex_if_eq (tgt := 29) ok_X7_at (mi 10 rfl) rfl (fun _ => ?_) (fun hn => absurd (by decide) hn)
    refine ex_iinc ok_X7_at (mi 17 rfl) rfl ?_
    refine ex_goto (tgt := 4) ok_X7_at (mi 18 rfl) rfl ?_
    exact ex_ls (ls' := [(0, .ref x), (1, .int i), (2, .int (nI 0)), (3, .int (nI (r + 1)))]) ⟨rfl, rfl, rfl, by rw [nI_succ]; rfl, trivial⟩ (ih (r + 1) (by omega))
theorem m_at0 {G : GE} (hst : (ge_l G).stackTraces = false) {x : Nat} {h : GT} (hs : sh TZ h x) (ha : tA [(0, 10, nI 0)] h x) {i : Int32} : ex_M G 2 0 0 my_X7_at [.ref x, .int i] h (rv (some (.int (-1))) h) := by
  refine ex_M_of ok_X7_at cw_X7_at rfl hst (Nat.le_of_ble_eq_true rfl) ?_
  refine ex_iconst ok_X7_at (mi 0 rfl) ?_
  refine ex_istore_n ok_X7_at (mi 1 rfl) ?_
  refine ex_iconst ok_X7_at (mi 2 rfl) ?_
  refine ex_istore_n ok_X7_at (mi 3 rfl) ?_
  exact ex_ls (ls' := [(0, .ref x), (1, .int i), (2, .int (nI 0)), (3, .int (nI 0))]) ⟨rfl, rfl, rfl, rfl, trivial⟩ (lp_at hst hs ha ⟨rfl, rfl⟩ 300 0 rfl)
