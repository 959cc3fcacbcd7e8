/-! ===== the law's cases ===== -/
theorem mL0 {q : Nat × Instr × Nat} (i : Nat) (h : cL_0[i]? = some q) : q ∈ mt_c M_L_law := List.mem_append_left _ (List.mem_of_getElem? h)
theorem mL1 {q : Nat × Instr × Nat} (i : Nat) (h : cL_1[i]? = some q) : q ∈ mt_c M_L_law := List.mem_append_right _ (List.mem_append_left _ (List.mem_of_getElem? h))
theorem mL2 {q : Nat × Instr × Nat} (i : Nat) (h : cL_2[i]? = some q) : q ∈ mt_c M_L_law := List.mem_append_right _ (List.mem_append_right _ (List.mem_append_left _ (List.mem_of_getElem? h)))
theorem mL3 {q : Nat × Instr × Nat} (i : Nat) (h : cL_3[i]? = some q) : q ∈ mt_c M_L_law := List.mem_append_right _ (List.mem_append_right _ (List.mem_append_right _ (List.mem_append_left _ (List.mem_of_getElem? h))))
theorem mL4 {q : Nat × Instr × Nat} (i : Nat) (h : cL_4[i]? = some q) : q ∈ mt_c M_L_law := List.mem_append_right _ (List.mem_append_right _ (List.mem_append_right _ (List.mem_append_right _ (List.mem_append_left _ (List.mem_of_getElem? h)))))
theorem mL5 {q : Nat × Instr × Nat} (i : Nat) (h : cL_5[i]? = some q) : q ∈ mt_c M_L_law := List.mem_append_right _ (List.mem_append_right _ (List.mem_append_right _ (List.mem_append_right _ (List.mem_append_right _ (List.mem_append_left _ (List.mem_of_getElem? h))))))
theorem mL6 {q : Nat × Instr × Nat} (i : Nat) (h : cL_6[i]? = some q) : q ∈ mt_c M_L_law := List.mem_append_right _ (List.mem_append_right _ (List.mem_append_right _ (List.mem_append_right _ (List.mem_append_right _ (List.mem_append_right _ (List.mem_append_left _ (List.mem_of_getElem? h)))))))
theorem mL7 {q : Nat × Instr × Nat} (i : Nat) (h : cL_7[i]? = some q) : q ∈ mt_c M_L_law := List.mem_append_right _ (List.mem_append_right _ (List.mem_append_right _ (List.mem_append_right _ (List.mem_append_right _ (List.mem_append_right _ (List.mem_append_right _ (List.mem_append_left _ (List.mem_of_getElem? h))))))))
theorem mL8 {q : Nat × Instr × Nat} (i : Nat) (h : cL_8[i]? = some q) : q ∈ mt_c M_L_law := List.mem_append_right _ (List.mem_append_right _ (List.mem_append_right _ (List.mem_append_right _ (List.mem_append_right _ (List.mem_append_right _ (List.mem_append_right _ (List.mem_append_right _ (List.mem_append_left _ (List.mem_of_getElem? h)))))))))
theorem mL9 {q : Nat × Instr × Nat} (i : Nat) (h : cL_9[i]? = some q) : q ∈ mt_c M_L_law := List.mem_append_right _ (List.mem_append_right _ (List.mem_append_right _ (List.mem_append_right _ (List.mem_append_right _ (List.mem_append_right _ (List.mem_append_right _ (List.mem_append_right _ (List.mem_append_right _ (List.mem_append_left _ (List.mem_of_getElem? h))))))))))
theorem mL10 {q : Nat × Instr × Nat} (i : Nat) (h : cL_10[i]? = some q) : q ∈ mt_c M_L_law := List.mem_append_right _ (List.mem_append_right _ (List.mem_append_right _ (List.mem_append_right _ (List.mem_append_right _ (List.mem_append_right _ (List.mem_append_right _ (List.mem_append_right _ (List.mem_append_right _ (List.mem_append_right _ (List.mem_append_left _ (List.mem_of_getElem? h)))))))))))
theorem mL11 {q : Nat × Instr × Nat} (i : Nat) (h : cL_11[i]? = some q) : q ∈ mt_c M_L_law := List.mem_append_right _ (List.mem_append_right _ (List.mem_append_right _ (List.mem_append_right _ (List.mem_append_right _ (List.mem_append_right _ (List.mem_append_right _ (List.mem_append_right _ (List.mem_append_right _ (List.mem_append_right _ (List.mem_append_right _ (List.mem_append_left _ (List.mem_of_getElem? h))))))))))))
theorem mL12 {q : Nat × Instr × Nat} (i : Nat) (h : cL_12[i]? = some q) : q ∈ mt_c M_L_law := List.mem_append_right _ (List.mem_append_right _ (List.mem_append_right _ (List.mem_append_right _ (List.mem_append_right _ (List.mem_append_right _ (List.mem_append_right _ (List.mem_append_right _ (List.mem_append_right _ (List.mem_append_right _ (List.mem_append_right _ (List.mem_append_right _ (List.mem_append_left _ (List.mem_of_getElem? h)))))))))))))
theorem mL13 {q : Nat × Instr × Nat} (i : Nat) (h : cL_13[i]? = some q) : q ∈ mt_c M_L_law := List.mem_append_right _ (List.mem_append_right _ (List.mem_append_right _ (List.mem_append_right _ (List.mem_append_right _ (List.mem_append_right _ (List.mem_append_right _ (List.mem_append_right _ (List.mem_append_right _ (List.mem_append_right _ (List.mem_append_right _ (List.mem_append_right _ (List.mem_append_right _ (List.mem_append_left _ (List.mem_of_getElem? h))))))))))))))
theorem mL14 {q : Nat × Instr × Nat} (i : Nat) (h : cL_14[i]? = some q) : q ∈ mt_c M_L_law := List.mem_append_right _ (List.mem_append_right _ (List.mem_append_right _ (List.mem_append_right _ (List.mem_append_right _ (List.mem_append_right _ (List.mem_append_right _ (List.mem_append_right _ (List.mem_append_right _ (List.mem_append_right _ (List.mem_append_right _ (List.mem_append_right _ (List.mem_append_right _ (List.mem_append_right _ (List.mem_append_left _ (List.mem_of_getElem? h)))))))))))))))
theorem mL15 {q : Nat × Instr × Nat} (i : Nat) (h : cL_15[i]? = some q) : q ∈ mt_c M_L_law := List.mem_append_right _ (List.mem_append_right _ (List.mem_append_right _ (List.mem_append_right _ (List.mem_append_right _ (List.mem_append_right _ (List.mem_append_right _ (List.mem_append_right _ (List.mem_append_right _ (List.mem_append_right _ (List.mem_append_right _ (List.mem_append_right _ (List.mem_append_right _ (List.mem_append_right _ (List.mem_append_right _ (List.mem_of_getElem? h)))))))))))))))
theorem ex_laldx {G : GE} {d mc ms : Nat} {M : MT} {pc : Nat} {ls : List (Nat × Value)} {st : List Value} {g : GT} {Q : RT → GT → Prop} {a N : Nat} {i : Int32} {v : Int64} (hM : mt_ok M = true) (hf : mt_in M pc (.laload) 1) (hk : gx_K g a = 51) (hN : gx_N g a = N) (hin : vp_in i N) (hx : gx_L g a i.toNatClampNeg = v) (k : ex_W G d mc ms M (pc + 1) ls (.long v :: st) g Q) : ex_W G d mc ms M pc ls (.int i :: .ref a :: st) g Q :=
  ex_lald hM hf hk (by rw [hN]; exact hin) (by rw [hx]; exact k)
theorem lgc (x : Int64) : lg_cmp x x = 0 := by
  unfold lg_cmp
  simp
def MP (x k : Nat) (v : Int32) (h : GT) : Option Value → GT → Prop := fun z h' => ∃ u, z = some (.int u) ∧ (k = 0 → u = v) ∧ gx_I h' 1200 x = nI k ∧ gx_K h' x = 13 ∧ kp x 60 h h'
theorem MMs {G : GE} {d mc ms x k : Nat} {y : MethodName} {As : List Value} {v : Int32} {h : GT} (m : MM G d mc ms y x As k v) (f : FM h x) : ex_M G d mc ms y (.ref x :: As) h (fun r h' => ∃ z, r = .inl z ∧ MP x k v h z h') :=
  ex_M.mono (m h f) (fun r h' q => by
    obtain ⟨u, q1, q2⟩ := q
    exact ⟨_, q1, u, rfl, q2⟩)
/-- both objects fresh, the long behind them, the script of four -/
def LW (h : GT) (x s : Nat) (p : Nat → Int32) : Prop := FR h x ∧ FM h (x + 892) ∧ gx_K h (x + 952) = 51 ∧ gx_N h (x + 952) = 1 ∧ s < x ∧ gx_K h s = 60 ∧ gx_N h s = 4 ∧ ∀ j, j < 4 → gx_A h s j = p j
theorem lw_end {G : GE} {mc ms s : Nat} {h : GT} {Q : RT → GT → Prop} (hk : gx_K h s = 60) (hn : gx_N h s = 4) (hq : Q (.inl (some (.int (nI 1)))) h) : ex_W G 10 mc ms M_L_law 1545 [(0, .ref s), (4, .int (nI 0))] [] h Q := by
  refine ex_iincx (w := nI 4) ok_L_law (mL15 40 rfl) rfl (by decide) ?_
  refine ex_goto (tgt := 23) ok_L_law (mL15 41 rfl) rfl ?_
  refine ex_iload ok_L_law (mL0 13 rfl) rfl ?_
  refine ex_aload_n ok_L_law (mL0 14 rfl) rfl ?_
  refine ex_alenx ok_L_law (mL0 15 rfl) (Or.inr (Or.inr hk)) hn ?_
  refine ex_iconst ok_L_law (mL0 16 rfl) ?_
  refine ex_isub ok_L_law (mL0 17 rfl) ?_
  refine ex_top (w := nI 0) (by decide) ?_
  refine ex_icmp_gt (tgt := 1551) ok_L_law (mL0 18 rfl) rfl (fun _ => ?_) (fun hn => absurd (by decide) hn)
  refine ex_iconst ok_L_law (mL15 42 rfl) ?_
  refine ex_zret ok_L_law (mL15 43 rfl) rfl (by decide) ?_
  exact hq
theorem w_begin {G : GE} (hst : (ge_l G).stackTraces = false) {x s mc ms : Nat} {h : GT} {Q : RT → GT → Prop} {p : Nat → Int32} (w : LW h x s p) (hmc : 4 ≤ mc) (hms : 24 ≤ ms) (hq : ∀ h', Q (.inl (some (.int (nI 1)))) h') : ex_W G 10 mc ms M_L_law 136 [(0, .ref s), (1, .ref x), (2, .ref (x + 892)), (3, .ref (x + 952)), (4, .int (nI 0))] [] h Q := by
  obtain ⟨f, fm, k1, n1, hs, k2, n2, a2⟩ := w
  obtain ⟨k, v, hk, hc, hm⟩ := b_begin (x := x) (y := x + 892) hst (p 1) (p 2) (p 3)
  rcases (by omega : k = 0 ∨ k = 1 ∨ k = 2) with rfl | rfl | rfl
  · skip
    refine ex_aload_n ok_L_law (mL0 25 rfl) rfl ?_
    refine ex_aload_n ok_L_law (mL0 26 rfl) rfl ?_
    refine ex_iload ok_L_law (mL0 27 rfl) rfl ?_
    refine ex_iconst ok_L_law (mL0 28 rfl) ?_
    refine ex_iadd ok_L_law (mL0 29 rfl) ?_
    refine ex_top (w := nI 1) (by decide) ?_
    refine ex_ialdx ok_L_law (mL0 30 rfl) (Or.inr k2) n2 (pk_in 1 4 (by decide)) (a2 1 (by decide)) ?_
    refine ex_aload_n ok_L_law (mL0 31 rfl) rfl ?_
    refine ex_iload ok_L_law (mL0 32 rfl) rfl ?_
    refine ex_iconst ok_L_law (mL0 33 rfl) ?_
    refine ex_iadd ok_L_law (mL0 34 rfl) ?_
    refine ex_top (w := nI 2) (by decide) ?_
    refine ex_ialdx ok_L_law (mL0 35 rfl) (Or.inr k2) n2 (pk_in 2 4 (by decide)) (a2 2 (by decide)) ?_
    refine ex_aload_n ok_L_law (mL0 36 rfl) rfl ?_
    refine ex_iload ok_L_law (mL0 37 rfl) rfl ?_
    refine ex_iconst ok_L_law (mL0 38 rfl) ?_
    refine ex_iadd ok_L_law (mL0 39 rfl) ?_
    refine ex_top (w := nI 3) (by decide) ?_
    refine ex_ialdx ok_L_law (mL0 40 rfl) (Or.inr k2) n2 (pk_in 3 4 (by decide)) (a2 3 (by decide)) ?_
    refine ex_aload_n ok_L_law (mL0 41 rfl) rfl ?_
    refine ex_callSHs (As := [_, _, _, _, _]) ok_L_law (mL0 42 rfl) rfl (l_begin0 hst hc f (by omega) k1 n1) rfl rfl rfl (by decide) (Nat.le_of_ble_eq_true rfl) ⟨hmc, hms⟩ (fun z h1 hl => ?_)
    obtain ⟨rfl, l1, l2, l3, l4⟩ := hl
    have fm1 : FM h1 (x + 892) := FM_sm (fun q a b => l4 q (Or.inr a) (by omega)) fm
    have m1 := l4 s (Or.inl hs) (by omega)
    have s1 := m1.1.trans k2
    have t1 := m1.2.1.trans n2
    have a1 : ∀ j, j < 4 → gx_A h1 s j = p j := fun j hj => (m1.2.2.2.2.1 j).trans (a2 j hj)
    refine ex_istore ok_L_law (mL0 43 rfl) ?_
    refine ex_aload_n ok_L_law (mL0 44 rfl) rfl ?_
    refine ex_aload_n ok_L_law (mL0 45 rfl) rfl ?_
    refine ex_iload ok_L_law (mL0 46 rfl) rfl ?_
    refine ex_iconst ok_L_law (mL0 47 rfl) ?_
    refine ex_iadd ok_L_law (mL0 48 rfl) ?_
    refine ex_top (w := nI 1) (by decide) ?_
    refine ex_ialdx ok_L_law (mL0 49 rfl) (Or.inr s1) t1 (pk_in 1 4 (by decide)) (a1 1 (by decide)) ?_
    refine ex_aload_n ok_L_law (mL0 50 rfl) rfl ?_
    refine ex_iload ok_L_law (mL0 51 rfl) rfl ?_
    refine ex_iconst ok_L_law (mL0 52 rfl) ?_
    refine ex_iadd ok_L_law (mL0 53 rfl) ?_
    refine ex_top (w := nI 2) (by decide) ?_
    refine ex_ialdx ok_L_law (mL0 54 rfl) (Or.inr s1) t1 (pk_in 2 4 (by decide)) (a1 2 (by decide)) ?_
    refine ex_aload_n ok_L_law (mL0 55 rfl) rfl ?_
    refine ex_iload ok_L_law (mL0 56 rfl) rfl ?_
    refine ex_iconst ok_L_law (mL0 57 rfl) ?_
    refine ex_iadd ok_L_law (mL0 58 rfl) ?_
    refine ex_top (w := nI 3) (by decide) ?_
    refine ex_ialdx ok_L_law (mL0 59 rfl) (Or.inr s1) t1 (pk_in 3 4 (by decide)) (a1 3 (by decide)) ?_
    refine ex_callVs (As := [_, _, _]) ok_L_law (mL1 0 rfl) rfl (MMs hm fm1) rfl (fk (x := x + 892) (a := 0) fm1.1 0 rfl) rfl rfl (by decide) (by decide) (Nat.le_of_ble_eq_true rfl) ⟨Nat.zero_le _, Nat.zero_le _⟩ (fun z h2 hl => ?_)
    obtain ⟨u, rfl, u1, u2, u3, u4⟩ := hl
    have m2 := u4.2 s (Or.inl (by omega))
    refine ex_istore ok_L_law (mL1 1 rfl) ?_
    refine ex_aload_n ok_L_law (mL1 2 rfl) rfl ?_
    refine ex_callVr (As := []) ok_L_law (mL1 3 rfl) rfl (m_X12_thrown hst u3 u2) rfl u3 rfl rfl (by decide) (by decide) (Nat.le_of_ble_eq_true rfl) ⟨Nat.zero_le _, Nat.zero_le _⟩ ?_
    refine ex_iload ok_L_law (mL1 4 rfl) rfl ?_
    refine ex_icmp_eq (tgt := 196) ok_L_law (mL1 5 rfl) rfl (fun _ => ?_) (fun hn => absurd rfl hn)
    refine ex_iload ok_L_law (mL1 8 rfl) rfl ?_
    refine ex_if_ne (tgt := 213) ok_L_law (mL1 9 rfl) rfl (fun hn => absurd (by decide) hn) (fun _ => ?_)
    refine ex_aload_n ok_L_law (mL1 10 rfl) rfl ?_
    refine ex_iconst ok_L_law (mL1 11 rfl) ?_
    obtain rfl := u1 rfl
    have m3 := u4.2 (x + 952) (Or.inr (by omega))
    refine ex_laldx (v := u.toInt64) ok_L_law (mL1 12 rfl) (m3.1.trans l2) (m3.2.1.trans l3) (pk_in 0 1 (by decide)) ((m3.2.2.2.2.2.1 0).trans (l1 rfl)) ?_
    refine ex_iload ok_L_law (mL1 13 rfl) rfl ?_
    refine ex_i2l ok_L_law (mL1 14 rfl) ?_
    refine ex_lcmp ok_L_law (mL1 15 rfl) ?_
    refine ex_top (w := 0) (lgc _) ?_
    refine ex_if_eq (tgt := 213) ok_L_law (mL1 16 rfl) rfl (fun _ => ?_) (fun hn => absurd rfl hn)
    refine ex_goto (tgt := 1545) ok_L_law (mL1 19 rfl) rfl ?_
    exact ex_ls (ls' := [(0, .ref s), (4, .int (nI 0))]) ⟨rfl, rfl, trivial⟩ (lw_end (m2.1.trans s1) (m2.2.1.trans t1) (hq _))
  · skip
    refine ex_aload_n ok_L_law (mL0 25 rfl) rfl ?_
    refine ex_aload_n ok_L_law (mL0 26 rfl) rfl ?_
    refine ex_iload ok_L_law (mL0 27 rfl) rfl ?_
    refine ex_iconst ok_L_law (mL0 28 rfl) ?_
    refine ex_iadd ok_L_law (mL0 29 rfl) ?_
    refine ex_top (w := nI 1) (by decide) ?_
    refine ex_ialdx ok_L_law (mL0 30 rfl) (Or.inr k2) n2 (pk_in 1 4 (by decide)) (a2 1 (by decide)) ?_
    refine ex_aload_n ok_L_law (mL0 31 rfl) rfl ?_
    refine ex_iload ok_L_law (mL0 32 rfl) rfl ?_
    refine ex_iconst ok_L_law (mL0 33 rfl) ?_
    refine ex_iadd ok_L_law (mL0 34 rfl) ?_
    refine ex_top (w := nI 2) (by decide) ?_
    refine ex_ialdx ok_L_law (mL0 35 rfl) (Or.inr k2) n2 (pk_in 2 4 (by decide)) (a2 2 (by decide)) ?_
    refine ex_aload_n ok_L_law (mL0 36 rfl) rfl ?_
    refine ex_iload ok_L_law (mL0 37 rfl) rfl ?_
    refine ex_iconst ok_L_law (mL0 38 rfl) ?_
    refine ex_iadd ok_L_law (mL0 39 rfl) ?_
    refine ex_top (w := nI 3) (by decide) ?_
    refine ex_ialdx ok_L_law (mL0 40 rfl) (Or.inr k2) n2 (pk_in 3 4 (by decide)) (a2 3 (by decide)) ?_
    refine ex_aload_n ok_L_law (mL0 41 rfl) rfl ?_
    refine ex_callSHs (As := [_, _, _, _, _]) ok_L_law (mL0 42 rfl) rfl (l_begin1 hst hc f (by omega) k1 n1) rfl rfl rfl (by decide) (Nat.le_of_ble_eq_true rfl) ⟨hmc, hms⟩ (fun z h1 hl => ?_)
    obtain ⟨rfl, l1, l2, l3, l4⟩ := hl
    have fm1 : FM h1 (x + 892) := FM_sm (fun q a b => l4 q (Or.inr a) (by omega)) fm
    have m1 := l4 s (Or.inl hs) (by omega)
    have s1 := m1.1.trans k2
    have t1 := m1.2.1.trans n2
    have a1 : ∀ j, j < 4 → gx_A h1 s j = p j := fun j hj => (m1.2.2.2.2.1 j).trans (a2 j hj)
    refine ex_istore ok_L_law (mL0 43 rfl) ?_
    refine ex_aload_n ok_L_law (mL0 44 rfl) rfl ?_
    refine ex_aload_n ok_L_law (mL0 45 rfl) rfl ?_
    refine ex_iload ok_L_law (mL0 46 rfl) rfl ?_
    refine ex_iconst ok_L_law (mL0 47 rfl) ?_
    refine ex_iadd ok_L_law (mL0 48 rfl) ?_
    refine ex_top (w := nI 1) (by decide) ?_
    refine ex_ialdx ok_L_law (mL0 49 rfl) (Or.inr s1) t1 (pk_in 1 4 (by decide)) (a1 1 (by decide)) ?_
    refine ex_aload_n ok_L_law (mL0 50 rfl) rfl ?_
    refine ex_iload ok_L_law (mL0 51 rfl) rfl ?_
    refine ex_iconst ok_L_law (mL0 52 rfl) ?_
    refine ex_iadd ok_L_law (mL0 53 rfl) ?_
    refine ex_top (w := nI 2) (by decide) ?_
    refine ex_ialdx ok_L_law (mL0 54 rfl) (Or.inr s1) t1 (pk_in 2 4 (by decide)) (a1 2 (by decide)) ?_
    refine ex_aload_n ok_L_law (mL0 55 rfl) rfl ?_
    refine ex_iload ok_L_law (mL0 56 rfl) rfl ?_
    refine ex_iconst ok_L_law (mL0 57 rfl) ?_
    refine ex_iadd ok_L_law (mL0 58 rfl) ?_
    refine ex_top (w := nI 3) (by decide) ?_
    refine ex_ialdx ok_L_law (mL0 59 rfl) (Or.inr s1) t1 (pk_in 3 4 (by decide)) (a1 3 (by decide)) ?_
    refine ex_callVs (As := [_, _, _]) ok_L_law (mL1 0 rfl) rfl (MMs hm fm1) rfl (fk (x := x + 892) (a := 0) fm1.1 0 rfl) rfl rfl (by decide) (by decide) (Nat.le_of_ble_eq_true rfl) ⟨Nat.zero_le _, Nat.zero_le _⟩ (fun z h2 hl => ?_)
    obtain ⟨u, rfl, u1, u2, u3, u4⟩ := hl
    have m2 := u4.2 s (Or.inl (by omega))
    refine ex_istore ok_L_law (mL1 1 rfl) ?_
    refine ex_aload_n ok_L_law (mL1 2 rfl) rfl ?_
    refine ex_callVr (As := []) ok_L_law (mL1 3 rfl) rfl (m_X12_thrown hst u3 u2) rfl u3 rfl rfl (by decide) (by decide) (Nat.le_of_ble_eq_true rfl) ⟨Nat.zero_le _, Nat.zero_le _⟩ ?_
    refine ex_iload ok_L_law (mL1 4 rfl) rfl ?_
    refine ex_icmp_eq (tgt := 196) ok_L_law (mL1 5 rfl) rfl (fun _ => ?_) (fun hn => absurd rfl hn)
    refine ex_iload ok_L_law (mL1 8 rfl) rfl ?_
    refine ex_if_ne (tgt := 213) ok_L_law (mL1 9 rfl) rfl (fun _ => ?_) (fun hn => absurd hn (by decide))
    refine ex_goto (tgt := 1545) ok_L_law (mL1 19 rfl) rfl ?_
    exact ex_ls (ls' := [(0, .ref s), (4, .int (nI 0))]) ⟨rfl, rfl, trivial⟩ (lw_end (m2.1.trans s1) (m2.2.1.trans t1) (hq _))
  · skip
    refine ex_aload_n ok_L_law (mL0 25 rfl) rfl ?_
    refine ex_aload_n ok_L_law (mL0 26 rfl) rfl ?_
    refine ex_iload ok_L_law (mL0 27 rfl) rfl ?_
    refine ex_iconst ok_L_law (mL0 28 rfl) ?_
    refine ex_iadd ok_L_law (mL0 29 rfl) ?_
    refine ex_top (w := nI 1) (by decide) ?_
    refine ex_ialdx ok_L_law (mL0 30 rfl) (Or.inr k2) n2 (pk_in 1 4 (by decide)) (a2 1 (by decide)) ?_
    refine ex_aload_n ok_L_law (mL0 31 rfl) rfl ?_
    refine ex_iload ok_L_law (mL0 32 rfl) rfl ?_
    refine ex_iconst ok_L_law (mL0 33 rfl) ?_
    refine ex_iadd ok_L_law (mL0 34 rfl) ?_
    refine ex_top (w := nI 2) (by decide) ?_
    refine ex_ialdx ok_L_law (mL0 35 rfl) (Or.inr k2) n2 (pk_in 2 4 (by decide)) (a2 2 (by decide)) ?_
    refine ex_aload_n ok_L_law (mL0 36 rfl) rfl ?_
    refine ex_iload ok_L_law (mL0 37 rfl) rfl ?_
    refine ex_iconst ok_L_law (mL0 38 rfl) ?_
    refine ex_iadd ok_L_law (mL0 39 rfl) ?_
    refine ex_top (w := nI 3) (by decide) ?_
    refine ex_ialdx ok_L_law (mL0 40 rfl) (Or.inr k2) n2 (pk_in 3 4 (by decide)) (a2 3 (by decide)) ?_
    refine ex_aload_n ok_L_law (mL0 41 rfl) rfl ?_
    refine ex_callSHs (As := [_, _, _, _, _]) ok_L_law (mL0 42 rfl) rfl (l_begin2 hst hc f (by omega) k1 n1) rfl rfl rfl (by decide) (Nat.le_of_ble_eq_true rfl) ⟨hmc, hms⟩ (fun z h1 hl => ?_)
    obtain ⟨rfl, l1, l2, l3, l4⟩ := hl
    have fm1 : FM h1 (x + 892) := FM_sm (fun q a b => l4 q (Or.inr a) (by omega)) fm
    have m1 := l4 s (Or.inl hs) (by omega)
    have s1 := m1.1.trans k2
    have t1 := m1.2.1.trans n2
    have a1 : ∀ j, j < 4 → gx_A h1 s j = p j := fun j hj => (m1.2.2.2.2.1 j).trans (a2 j hj)
    refine ex_istore ok_L_law (mL0 43 rfl) ?_
    refine ex_aload_n ok_L_law (mL0 44 rfl) rfl ?_
    refine ex_aload_n ok_L_law (mL0 45 rfl) rfl ?_
    refine ex_iload ok_L_law (mL0 46 rfl) rfl ?_
    refine ex_iconst ok_L_law (mL0 47 rfl) ?_
    refine ex_iadd ok_L_law (mL0 48 rfl) ?_
    refine ex_top (w := nI 1) (by decide) ?_
    refine ex_ialdx ok_L_law (mL0 49 rfl) (Or.inr s1) t1 (pk_in 1 4 (by decide)) (a1 1 (by decide)) ?_
    refine ex_aload_n ok_L_law (mL0 50 rfl) rfl ?_
    refine ex_iload ok_L_law (mL0 51 rfl) rfl ?_
    refine ex_iconst ok_L_law (mL0 52 rfl) ?_
    refine ex_iadd ok_L_law (mL0 53 rfl) ?_
    refine ex_top (w := nI 2) (by decide) ?_
    refine ex_ialdx ok_L_law (mL0 54 rfl) (Or.inr s1) t1 (pk_in 2 4 (by decide)) (a1 2 (by decide)) ?_
    refine ex_aload_n ok_L_law (mL0 55 rfl) rfl ?_
    refine ex_iload ok_L_law (mL0 56 rfl) rfl ?_
    refine ex_iconst ok_L_law (mL0 57 rfl) ?_
    refine ex_iadd ok_L_law (mL0 58 rfl) ?_
    refine ex_top (w := nI 3) (by decide) ?_
    refine ex_ialdx ok_L_law (mL0 59 rfl) (Or.inr s1) t1 (pk_in 3 4 (by decide)) (a1 3 (by decide)) ?_
    refine ex_callVs (As := [_, _, _]) ok_L_law (mL1 0 rfl) rfl (MMs hm fm1) rfl (fk (x := x + 892) (a := 0) fm1.1 0 rfl) rfl rfl (by decide) (by decide) (Nat.le_of_ble_eq_true rfl) ⟨Nat.zero_le _, Nat.zero_le _⟩ (fun z h2 hl => ?_)
    obtain ⟨u, rfl, u1, u2, u3, u4⟩ := hl
    have m2 := u4.2 s (Or.inl (by omega))
    refine ex_istore ok_L_law (mL1 1 rfl) ?_
    refine ex_aload_n ok_L_law (mL1 2 rfl) rfl ?_
    refine ex_callVr (As := []) ok_L_law (mL1 3 rfl) rfl (m_X12_thrown hst u3 u2) rfl u3 rfl rfl (by decide) (by decide) (Nat.le_of_ble_eq_true rfl) ⟨Nat.zero_le _, Nat.zero_le _⟩ ?_
    refine ex_iload ok_L_law (mL1 4 rfl) rfl ?_
    refine ex_icmp_eq (tgt := 196) ok_L_law (mL1 5 rfl) rfl (fun _ => ?_) (fun hn => absurd rfl hn)
    refine ex_iload ok_L_law (mL1 8 rfl) rfl ?_
    refine ex_if_ne (tgt := 213) ok_L_law (mL1 9 rfl) rfl (fun _ => ?_) (fun hn => absurd hn (by decide))
    refine ex_goto (tgt := 1545) ok_L_law (mL1 19 rfl) rfl ?_
    exact ex_ls (ls' := [(0, .ref s), (4, .int (nI 0))]) ⟨rfl, rfl, trivial⟩ (lw_end (m2.1.trans s1) (m2.2.1.trans t1) (hq _))
theorem w_propose {G : GE} (hst : (ge_l G).stackTraces = false) {x s mc ms : Nat} {h : GT} {Q : RT → GT → Prop} {p : Nat → Int32} (w : LW h x s p) (hmc : 4 ≤ mc) (hms : 24 ≤ ms) (hq : ∀ h', Q (.inl (some (.int (nI 1)))) h') : ex_W G 10 mc ms M_L_law 216 [(0, .ref s), (1, .ref x), (2, .ref (x + 892)), (3, .ref (x + 952)), (4, .int (nI 0))] [] h Q := by
  obtain ⟨f, fm, k1, n1, hs, k2, n2, a2⟩ := w
  obtain ⟨k, v, hk, hc, hm⟩ := b_propose (x := x) (y := x + 892) hst (p 1) (p 2)
  rcases (by omega : k = 0 ∨ k = 1 ∨ k = 2) with rfl | rfl | rfl
  · skip
    refine ex_aload_n ok_L_law (mL1 20 rfl) rfl ?_
    refine ex_aload_n ok_L_law (mL1 21 rfl) rfl ?_
    refine ex_iload ok_L_law (mL1 22 rfl) rfl ?_
    refine ex_iconst ok_L_law (mL1 23 rfl) ?_
    refine ex_iadd ok_L_law (mL1 24 rfl) ?_
    refine ex_top (w := nI 1) (by decide) ?_
    refine ex_ialdx ok_L_law (mL1 25 rfl) (Or.inr k2) n2 (pk_in 1 4 (by decide)) (a2 1 (by decide)) ?_
    refine ex_aload_n ok_L_law (mL1 26 rfl) rfl ?_
    refine ex_iload ok_L_law (mL1 27 rfl) rfl ?_
    refine ex_iconst ok_L_law (mL1 28 rfl) ?_
    refine ex_iadd ok_L_law (mL1 29 rfl) ?_
    refine ex_top (w := nI 2) (by decide) ?_
    refine ex_ialdx ok_L_law (mL1 30 rfl) (Or.inr k2) n2 (pk_in 2 4 (by decide)) (a2 2 (by decide)) ?_
    refine ex_aload_n ok_L_law (mL1 31 rfl) rfl ?_
    refine ex_callSHs (As := [_, _, _, _]) ok_L_law (mL1 32 rfl) rfl (l_propose0 hst hc f (by omega) k1 n1) rfl rfl rfl (by decide) (Nat.le_of_ble_eq_true rfl) ⟨hmc, hms⟩ (fun z h1 hl => ?_)
    obtain ⟨rfl, l1, l2, l3, l4⟩ := hl
    have fm1 : FM h1 (x + 892) := FM_sm (fun q a b => l4 q (Or.inr a) (by omega)) fm
    have m1 := l4 s (Or.inl hs) (by omega)
    have s1 := m1.1.trans k2
    have t1 := m1.2.1.trans n2
    have a1 : ∀ j, j < 4 → gx_A h1 s j = p j := fun j hj => (m1.2.2.2.2.1 j).trans (a2 j hj)
    refine ex_istore ok_L_law (mL1 33 rfl) ?_
    refine ex_aload_n ok_L_law (mL1 34 rfl) rfl ?_
    refine ex_aload_n ok_L_law (mL1 35 rfl) rfl ?_
    refine ex_iload ok_L_law (mL1 36 rfl) rfl ?_
    refine ex_iconst ok_L_law (mL1 37 rfl) ?_
    refine ex_iadd ok_L_law (mL1 38 rfl) ?_
    refine ex_top (w := nI 1) (by decide) ?_
    refine ex_ialdx ok_L_law (mL1 39 rfl) (Or.inr s1) t1 (pk_in 1 4 (by decide)) (a1 1 (by decide)) ?_
    refine ex_aload_n ok_L_law (mL1 40 rfl) rfl ?_
    refine ex_iload ok_L_law (mL1 41 rfl) rfl ?_
    refine ex_iconst ok_L_law (mL1 42 rfl) ?_
    refine ex_iadd ok_L_law (mL1 43 rfl) ?_
    refine ex_top (w := nI 2) (by decide) ?_
    refine ex_ialdx ok_L_law (mL1 44 rfl) (Or.inr s1) t1 (pk_in 2 4 (by decide)) (a1 2 (by decide)) ?_
    refine ex_callVs (As := [_, _]) ok_L_law (mL1 45 rfl) rfl (MMs hm fm1) rfl (fk (x := x + 892) (a := 0) fm1.1 0 rfl) rfl rfl (by decide) (by decide) (Nat.le_of_ble_eq_true rfl) ⟨Nat.zero_le _, Nat.zero_le _⟩ (fun z h2 hl => ?_)
    obtain ⟨u, rfl, u1, u2, u3, u4⟩ := hl
    have m2 := u4.2 s (Or.inl (by omega))
    refine ex_istore ok_L_law (mL1 46 rfl) ?_
    refine ex_aload_n ok_L_law (mL1 47 rfl) rfl ?_
    refine ex_callVr (As := []) ok_L_law (mL1 48 rfl) rfl (m_X12_thrown hst u3 u2) rfl u3 rfl rfl (by decide) (by decide) (Nat.le_of_ble_eq_true rfl) ⟨Nat.zero_le _, Nat.zero_le _⟩ ?_
    refine ex_iload ok_L_law (mL1 49 rfl) rfl ?_
    refine ex_icmp_eq (tgt := 264) ok_L_law (mL1 50 rfl) rfl (fun _ => ?_) (fun hn => absurd rfl hn)
    refine ex_iload ok_L_law (mL1 53 rfl) rfl ?_
    refine ex_if_ne (tgt := 281) ok_L_law (mL1 54 rfl) rfl (fun hn => absurd (by decide) hn) (fun _ => ?_)
    refine ex_aload_n ok_L_law (mL1 55 rfl) rfl ?_
    refine ex_iconst ok_L_law (mL1 56 rfl) ?_
    obtain rfl := u1 rfl
    have m3 := u4.2 (x + 952) (Or.inr (by omega))
    refine ex_laldx (v := u.toInt64) ok_L_law (mL1 57 rfl) (m3.1.trans l2) (m3.2.1.trans l3) (pk_in 0 1 (by decide)) ((m3.2.2.2.2.2.1 0).trans (l1 rfl)) ?_
    refine ex_iload ok_L_law (mL1 58 rfl) rfl ?_
    refine ex_i2l ok_L_law (mL1 59 rfl) ?_
    refine ex_lcmp ok_L_law (mL2 0 rfl) ?_
    refine ex_top (w := 0) (lgc _) ?_
    refine ex_if_eq (tgt := 281) ok_L_law (mL2 1 rfl) rfl (fun _ => ?_) (fun hn => absurd rfl hn)
    refine ex_goto (tgt := 1545) ok_L_law (mL2 4 rfl) rfl ?_
    exact ex_ls (ls' := [(0, .ref s), (4, .int (nI 0))]) ⟨rfl, rfl, trivial⟩ (lw_end (m2.1.trans s1) (m2.2.1.trans t1) (hq _))
  · skip
    refine ex_aload_n ok_L_law (mL1 20 rfl) rfl ?_
    refine ex_aload_n ok_L_law (mL1 21 rfl) rfl ?_
    refine ex_iload ok_L_law (mL1 22 rfl) rfl ?_
    refine ex_iconst ok_L_law (mL1 23 rfl) ?_
    refine ex_iadd ok_L_law (mL1 24 rfl) ?_
    refine ex_top (w := nI 1) (by decide) ?_
    refine ex_ialdx ok_L_law (mL1 25 rfl) (Or.inr k2) n2 (pk_in 1 4 (by decide)) (a2 1 (by decide)) ?_
    refine ex_aload_n ok_L_law (mL1 26 rfl) rfl ?_
    refine ex_iload ok_L_law (mL1 27 rfl) rfl ?_
    refine ex_iconst ok_L_law (mL1 28 rfl) ?_
    refine ex_iadd ok_L_law (mL1 29 rfl) ?_
    refine ex_top (w := nI 2) (by decide) ?_
    refine ex_ialdx ok_L_law (mL1 30 rfl) (Or.inr k2) n2 (pk_in 2 4 (by decide)) (a2 2 (by decide)) ?_
    refine ex_aload_n ok_L_law (mL1 31 rfl) rfl ?_
    refine ex_callSHs (As := [_, _, _, _]) ok_L_law (mL1 32 rfl) rfl (l_propose1 hst hc f (by omega) k1 n1) rfl rfl rfl (by decide) (Nat.le_of_ble_eq_true rfl) ⟨hmc, hms⟩ (fun z h1 hl => ?_)
    obtain ⟨rfl, l1, l2, l3, l4⟩ := hl
    have fm1 : FM h1 (x + 892) := FM_sm (fun q a b => l4 q (Or.inr a) (by omega)) fm
    have m1 := l4 s (Or.inl hs) (by omega)
    have s1 := m1.1.trans k2
    have t1 := m1.2.1.trans n2
    have a1 : ∀ j, j < 4 → gx_A h1 s j = p j := fun j hj => (m1.2.2.2.2.1 j).trans (a2 j hj)
    refine ex_istore ok_L_law (mL1 33 rfl) ?_
    refine ex_aload_n ok_L_law (mL1 34 rfl) rfl ?_
    refine ex_aload_n ok_L_law (mL1 35 rfl) rfl ?_
    refine ex_iload ok_L_law (mL1 36 rfl) rfl ?_
    refine ex_iconst ok_L_law (mL1 37 rfl) ?_
    refine ex_iadd ok_L_law (mL1 38 rfl) ?_
    refine ex_top (w := nI 1) (by decide) ?_
    refine ex_ialdx ok_L_law (mL1 39 rfl) (Or.inr s1) t1 (pk_in 1 4 (by decide)) (a1 1 (by decide)) ?_
    refine ex_aload_n ok_L_law (mL1 40 rfl) rfl ?_
    refine ex_iload ok_L_law (mL1 41 rfl) rfl ?_
    refine ex_iconst ok_L_law (mL1 42 rfl) ?_
    refine ex_iadd ok_L_law (mL1 43 rfl) ?_
    refine ex_top (w := nI 2) (by decide) ?_
    refine ex_ialdx ok_L_law (mL1 44 rfl) (Or.inr s1) t1 (pk_in 2 4 (by decide)) (a1 2 (by decide)) ?_
    refine ex_callVs (As := [_, _]) ok_L_law (mL1 45 rfl) rfl (MMs hm fm1) rfl (fk (x := x + 892) (a := 0) fm1.1 0 rfl) rfl rfl (by decide) (by decide) (Nat.le_of_ble_eq_true rfl) ⟨Nat.zero_le _, Nat.zero_le _⟩ (fun z h2 hl => ?_)
    obtain ⟨u, rfl, u1, u2, u3, u4⟩ := hl
    have m2 := u4.2 s (Or.inl (by omega))
    refine ex_istore ok_L_law (mL1 46 rfl) ?_
    refine ex_aload_n ok_L_law (mL1 47 rfl) rfl ?_
    refine ex_callVr (As := []) ok_L_law (mL1 48 rfl) rfl (m_X12_thrown hst u3 u2) rfl u3 rfl rfl (by decide) (by decide) (Nat.le_of_ble_eq_true rfl) ⟨Nat.zero_le _, Nat.zero_le _⟩ ?_
    refine ex_iload ok_L_law (mL1 49 rfl) rfl ?_
    refine ex_icmp_eq (tgt := 264) ok_L_law (mL1 50 rfl) rfl (fun _ => ?_) (fun hn => absurd rfl hn)
    refine ex_iload ok_L_law (mL1 53 rfl) rfl ?_
    refine ex_if_ne (tgt := 281) ok_L_law (mL1 54 rfl) rfl (fun _ => ?_) (fun hn => absurd hn (by decide))
    refine ex_goto (tgt := 1545) ok_L_law (mL2 4 rfl) rfl ?_
    exact ex_ls (ls' := [(0, .ref s), (4, .int (nI 0))]) ⟨rfl, rfl, trivial⟩ (lw_end (m2.1.trans s1) (m2.2.1.trans t1) (hq _))
  · skip
    refine ex_aload_n ok_L_law (mL1 20 rfl) rfl ?_
    refine ex_aload_n ok_L_law (mL1 21 rfl) rfl ?_
    refine ex_iload ok_L_law (mL1 22 rfl) rfl ?_
    refine ex_iconst ok_L_law (mL1 23 rfl) ?_
    refine ex_iadd ok_L_law (mL1 24 rfl) ?_
    refine ex_top (w := nI 1) (by decide) ?_
    refine ex_ialdx ok_L_law (mL1 25 rfl) (Or.inr k2) n2 (pk_in 1 4 (by decide)) (a2 1 (by decide)) ?_
    refine ex_aload_n ok_L_law (mL1 26 rfl) rfl ?_
    refine ex_iload ok_L_law (mL1 27 rfl) rfl ?_
    refine ex_iconst ok_L_law (mL1 28 rfl) ?_
    refine ex_iadd ok_L_law (mL1 29 rfl) ?_
    refine ex_top (w := nI 2) (by decide) ?_
    refine ex_ialdx ok_L_law (mL1 30 rfl) (Or.inr k2) n2 (pk_in 2 4 (by decide)) (a2 2 (by decide)) ?_
    refine ex_aload_n ok_L_law (mL1 31 rfl) rfl ?_
    refine ex_callSHs (As := [_, _, _, _]) ok_L_law (mL1 32 rfl) rfl (l_propose2 hst hc f (by omega) k1 n1) rfl rfl rfl (by decide) (Nat.le_of_ble_eq_true rfl) ⟨hmc, hms⟩ (fun z h1 hl => ?_)
    obtain ⟨rfl, l1, l2, l3, l4⟩ := hl
    have fm1 : FM h1 (x + 892) := FM_sm (fun q a b => l4 q (Or.inr a) (by omega)) fm
    have m1 := l4 s (Or.inl hs) (by omega)
    have s1 := m1.1.trans k2
    have t1 := m1.2.1.trans n2
    have a1 : ∀ j, j < 4 → gx_A h1 s j = p j := fun j hj => (m1.2.2.2.2.1 j).trans (a2 j hj)
    refine ex_istore ok_L_law (mL1 33 rfl) ?_
    refine ex_aload_n ok_L_law (mL1 34 rfl) rfl ?_
    refine ex_aload_n ok_L_law (mL1 35 rfl) rfl ?_
    refine ex_iload ok_L_law (mL1 36 rfl) rfl ?_
    refine ex_iconst ok_L_law (mL1 37 rfl) ?_
    refine ex_iadd ok_L_law (mL1 38 rfl) ?_
    refine ex_top (w := nI 1) (by decide) ?_
    refine ex_ialdx ok_L_law (mL1 39 rfl) (Or.inr s1) t1 (pk_in 1 4 (by decide)) (a1 1 (by decide)) ?_
    refine ex_aload_n ok_L_law (mL1 40 rfl) rfl ?_
    refine ex_iload ok_L_law (mL1 41 rfl) rfl ?_
    refine ex_iconst ok_L_law (mL1 42 rfl) ?_
    refine ex_iadd ok_L_law (mL1 43 rfl) ?_
    refine ex_top (w := nI 2) (by decide) ?_
    refine ex_ialdx ok_L_law (mL1 44 rfl) (Or.inr s1) t1 (pk_in 2 4 (by decide)) (a1 2 (by decide)) ?_
    refine ex_callVs (As := [_, _]) ok_L_law (mL1 45 rfl) rfl (MMs hm fm1) rfl (fk (x := x + 892) (a := 0) fm1.1 0 rfl) rfl rfl (by decide) (by decide) (Nat.le_of_ble_eq_true rfl) ⟨Nat.zero_le _, Nat.zero_le _⟩ (fun z h2 hl => ?_)
    obtain ⟨u, rfl, u1, u2, u3, u4⟩ := hl
    have m2 := u4.2 s (Or.inl (by omega))
    refine ex_istore ok_L_law (mL1 46 rfl) ?_
    refine ex_aload_n ok_L_law (mL1 47 rfl) rfl ?_
    refine ex_callVr (As := []) ok_L_law (mL1 48 rfl) rfl (m_X12_thrown hst u3 u2) rfl u3 rfl rfl (by decide) (by decide) (Nat.le_of_ble_eq_true rfl) ⟨Nat.zero_le _, Nat.zero_le _⟩ ?_
    refine ex_iload ok_L_law (mL1 49 rfl) rfl ?_
    refine ex_icmp_eq (tgt := 264) ok_L_law (mL1 50 rfl) rfl (fun _ => ?_) (fun hn => absurd rfl hn)
    refine ex_iload ok_L_law (mL1 53 rfl) rfl ?_
    refine ex_if_ne (tgt := 281) ok_L_law (mL1 54 rfl) rfl (fun _ => ?_) (fun hn => absurd hn (by decide))
    refine ex_goto (tgt := 1545) ok_L_law (mL2 4 rfl) rfl ?_
    exact ex_ls (ls' := [(0, .ref s), (4, .int (nI 0))]) ⟨rfl, rfl, trivial⟩ (lw_end (m2.1.trans s1) (m2.2.1.trans t1) (hq _))
theorem w_collect {G : GE} (hst : (ge_l G).stackTraces = false) {x s mc ms : Nat} {h : GT} {Q : RT → GT → Prop} {p : Nat → Int32} (w : LW h x s p) (hmc : 4 ≤ mc) (hms : 24 ≤ ms) (hq : ∀ h', Q (.inl (some (.int (nI 1)))) h') : ex_W G 10 mc ms M_L_law 284 [(0, .ref s), (1, .ref x), (2, .ref (x + 892)), (3, .ref (x + 952)), (4, .int (nI 0))] [] h Q := by
  obtain ⟨f, fm, k1, n1, hs, k2, n2, a2⟩ := w
  obtain ⟨k, v, hk, hv, hc, hm⟩ := b_collect (x := x) (y := x + 892) hst (p 1)
  rcases (by omega : k = 0 ∨ k = 1) with rfl | rfl
  · skip
    obtain rfl := hv rfl
    refine ex_aload_n ok_L_law (mL2 5 rfl) rfl ?_
    refine ex_aload_n ok_L_law (mL2 6 rfl) rfl ?_
    refine ex_iload ok_L_law (mL2 7 rfl) rfl ?_
    refine ex_iconst ok_L_law (mL2 8 rfl) ?_
    refine ex_iadd ok_L_law (mL2 9 rfl) ?_
    refine ex_top (w := nI 1) (by decide) ?_
    refine ex_ialdx ok_L_law (mL2 10 rfl) (Or.inr k2) n2 (pk_in 1 4 (by decide)) (a2 1 (by decide)) ?_
    refine ex_aload_n ok_L_law (mL2 11 rfl) rfl ?_
    refine ex_callSHs (As := [_, _, _]) ok_L_law (mL2 12 rfl) rfl (l_collect0 hst hc f (by omega) k1 n1) rfl rfl rfl (by decide) (Nat.le_of_ble_eq_true rfl) ⟨hmc, hms⟩ (fun z h1 hl => ?_)
    obtain ⟨rfl, l1, l2, l3, l4⟩ := hl
    have fm1 : FM h1 (x + 892) := FM_sm (fun q a b => l4 q (Or.inr a) (by omega)) fm
    have m1 := l4 s (Or.inl hs) (by omega)
    have s1 := m1.1.trans k2
    have t1 := m1.2.1.trans n2
    have a1 : ∀ j, j < 4 → gx_A h1 s j = p j := fun j hj => (m1.2.2.2.2.1 j).trans (a2 j hj)
    refine ex_istore ok_L_law (mL2 13 rfl) ?_
    refine ex_aload_n ok_L_law (mL2 14 rfl) rfl ?_
    refine ex_aload_n ok_L_law (mL2 15 rfl) rfl ?_
    refine ex_iload ok_L_law (mL2 16 rfl) rfl ?_
    refine ex_iconst ok_L_law (mL2 17 rfl) ?_
    refine ex_iadd ok_L_law (mL2 18 rfl) ?_
    refine ex_top (w := nI 1) (by decide) ?_
    refine ex_ialdx ok_L_law (mL2 19 rfl) (Or.inr s1) t1 (pk_in 1 4 (by decide)) (a1 1 (by decide)) ?_
    refine ex_callVs (As := [_]) ok_L_law (mL2 20 rfl) rfl (MMs hm fm1) rfl (fk (x := x + 892) (a := 0) fm1.1 0 rfl) rfl rfl (by decide) (by decide) (Nat.le_of_ble_eq_true rfl) ⟨Nat.zero_le _, Nat.zero_le _⟩ (fun z h2 hl => ?_)
    obtain ⟨u, rfl, u1, u2, u3, u4⟩ := hl
    have m2 := u4.2 s (Or.inl (by omega))
    refine ex_istore ok_L_law (mL2 21 rfl) ?_
    refine ex_aload_n ok_L_law (mL2 22 rfl) rfl ?_
    refine ex_callVr (As := []) ok_L_law (mL2 23 rfl) rfl (m_X12_thrown hst u3 u2) rfl u3 rfl rfl (by decide) (by decide) (Nat.le_of_ble_eq_true rfl) ⟨Nat.zero_le _, Nat.zero_le _⟩ ?_
    refine ex_iload ok_L_law (mL2 24 rfl) rfl ?_
    refine ex_icmp_eq (tgt := 320) ok_L_law (mL2 25 rfl) rfl (fun _ => ?_) (fun hn => absurd rfl hn)
    refine ex_iload ok_L_law (mL2 28 rfl) rfl ?_
    refine ex_if_ne (tgt := 344) ok_L_law (mL2 29 rfl) rfl (fun hn => absurd (by decide) hn) (fun _ => ?_)
    refine ex_aload_n ok_L_law (mL2 30 rfl) rfl ?_
    refine ex_iconst ok_L_law (mL2 31 rfl) ?_
    obtain rfl := u1 rfl
    have m3 := u4.2 (x + 952) (Or.inr (by omega))
    refine ex_laldx (v := (nI 0).toInt64) ok_L_law (mL2 32 rfl) (m3.1.trans l2) (m3.2.1.trans l3) (pk_in 0 1 (by decide)) ((m3.2.2.2.2.2.1 0).trans (l1 rfl)) ?_
    refine ex_iload ok_L_law (mL2 33 rfl) rfl ?_
    refine ex_if_eq (tgt := 337) ok_L_law (mL2 34 rfl) rfl (fun _ => ?_) (fun hn => absurd (by decide) hn)
    refine ex_lconst ok_L_law (mL2 37 rfl) ?_
    refine ex_lcmp ok_L_law (mL2 38 rfl) ?_
    refine ex_top (w := 0) (by decide) ?_
    refine ex_if_eq (tgt := 344) ok_L_law (mL2 39 rfl) rfl (fun _ => ?_) (fun hn => absurd rfl hn)
    refine ex_goto (tgt := 1545) ok_L_law (mL2 42 rfl) rfl ?_
    exact ex_ls (ls' := [(0, .ref s), (4, .int (nI 0))]) ⟨rfl, rfl, trivial⟩ (lw_end (m2.1.trans s1) (m2.2.1.trans t1) (hq _))
  · skip
    refine ex_aload_n ok_L_law (mL2 5 rfl) rfl ?_
    refine ex_aload_n ok_L_law (mL2 6 rfl) rfl ?_
    refine ex_iload ok_L_law (mL2 7 rfl) rfl ?_
    refine ex_iconst ok_L_law (mL2 8 rfl) ?_
    refine ex_iadd ok_L_law (mL2 9 rfl) ?_
    refine ex_top (w := nI 1) (by decide) ?_
    refine ex_ialdx ok_L_law (mL2 10 rfl) (Or.inr k2) n2 (pk_in 1 4 (by decide)) (a2 1 (by decide)) ?_
    refine ex_aload_n ok_L_law (mL2 11 rfl) rfl ?_
    refine ex_callSHs (As := [_, _, _]) ok_L_law (mL2 12 rfl) rfl (l_collect1 hst hc f (by omega) k1 n1) rfl rfl rfl (by decide) (Nat.le_of_ble_eq_true rfl) ⟨hmc, hms⟩ (fun z h1 hl => ?_)
    obtain ⟨rfl, l1, l2, l3, l4⟩ := hl
    have fm1 : FM h1 (x + 892) := FM_sm (fun q a b => l4 q (Or.inr a) (by omega)) fm
    have m1 := l4 s (Or.inl hs) (by omega)
    have s1 := m1.1.trans k2
    have t1 := m1.2.1.trans n2
    have a1 : ∀ j, j < 4 → gx_A h1 s j = p j := fun j hj => (m1.2.2.2.2.1 j).trans (a2 j hj)
    refine ex_istore ok_L_law (mL2 13 rfl) ?_
    refine ex_aload_n ok_L_law (mL2 14 rfl) rfl ?_
    refine ex_aload_n ok_L_law (mL2 15 rfl) rfl ?_
    refine ex_iload ok_L_law (mL2 16 rfl) rfl ?_
    refine ex_iconst ok_L_law (mL2 17 rfl) ?_
    refine ex_iadd ok_L_law (mL2 18 rfl) ?_
    refine ex_top (w := nI 1) (by decide) ?_
    refine ex_ialdx ok_L_law (mL2 19 rfl) (Or.inr s1) t1 (pk_in 1 4 (by decide)) (a1 1 (by decide)) ?_
    refine ex_callVs (As := [_]) ok_L_law (mL2 20 rfl) rfl (MMs hm fm1) rfl (fk (x := x + 892) (a := 0) fm1.1 0 rfl) rfl rfl (by decide) (by decide) (Nat.le_of_ble_eq_true rfl) ⟨Nat.zero_le _, Nat.zero_le _⟩ (fun z h2 hl => ?_)
    obtain ⟨u, rfl, u1, u2, u3, u4⟩ := hl
    have m2 := u4.2 s (Or.inl (by omega))
    refine ex_istore ok_L_law (mL2 21 rfl) ?_
    refine ex_aload_n ok_L_law (mL2 22 rfl) rfl ?_
    refine ex_callVr (As := []) ok_L_law (mL2 23 rfl) rfl (m_X12_thrown hst u3 u2) rfl u3 rfl rfl (by decide) (by decide) (Nat.le_of_ble_eq_true rfl) ⟨Nat.zero_le _, Nat.zero_le _⟩ ?_
    refine ex_iload ok_L_law (mL2 24 rfl) rfl ?_
    refine ex_icmp_eq (tgt := 320) ok_L_law (mL2 25 rfl) rfl (fun _ => ?_) (fun hn => absurd rfl hn)
    refine ex_iload ok_L_law (mL2 28 rfl) rfl ?_
    refine ex_if_ne (tgt := 344) ok_L_law (mL2 29 rfl) rfl (fun _ => ?_) (fun hn => absurd hn (by decide))
    refine ex_goto (tgt := 1545) ok_L_law (mL2 42 rfl) rfl ?_
    exact ex_ls (ls' := [(0, .ref s), (4, .int (nI 0))]) ⟨rfl, rfl, trivial⟩ (lw_end (m2.1.trans s1) (m2.2.1.trans t1) (hq _))
theorem w_reform {G : GE} (hst : (ge_l G).stackTraces = false) {x s mc ms : Nat} {h : GT} {Q : RT → GT → Prop} {p : Nat → Int32} (w : LW h x s p) (hmc : 4 ≤ mc) (hms : 24 ≤ ms) (hq : ∀ h', Q (.inl (some (.int (nI 1)))) h') : ex_W G 10 mc ms M_L_law 347 [(0, .ref s), (1, .ref x), (2, .ref (x + 892)), (3, .ref (x + 952)), (4, .int (nI 0))] [] h Q := by
  obtain ⟨f, fm, k1, n1, hs, k2, n2, a2⟩ := w
  obtain ⟨k, v, hk, hc, hm⟩ := b_reform (x := x) (y := x + 892) hst (p 1) (p 2) (p 3)
  rcases (by omega : k = 0 ∨ k = 1 ∨ k = 2) with rfl | rfl | rfl
  · skip
    refine ex_aload_n ok_L_law (mL2 43 rfl) rfl ?_
    refine ex_aload_n ok_L_law (mL2 44 rfl) rfl ?_
    refine ex_iload ok_L_law (mL2 45 rfl) rfl ?_
    refine ex_iconst ok_L_law (mL2 46 rfl) ?_
    refine ex_iadd ok_L_law (mL2 47 rfl) ?_
    refine ex_top (w := nI 1) (by decide) ?_
    refine ex_ialdx ok_L_law (mL2 48 rfl) (Or.inr k2) n2 (pk_in 1 4 (by decide)) (a2 1 (by decide)) ?_
    refine ex_aload_n ok_L_law (mL2 49 rfl) rfl ?_
    refine ex_iload ok_L_law (mL2 50 rfl) rfl ?_
    refine ex_iconst ok_L_law (mL2 51 rfl) ?_
    refine ex_iadd ok_L_law (mL2 52 rfl) ?_
    refine ex_top (w := nI 2) (by decide) ?_
    refine ex_ialdx ok_L_law (mL2 53 rfl) (Or.inr k2) n2 (pk_in 2 4 (by decide)) (a2 2 (by decide)) ?_
    refine ex_aload_n ok_L_law (mL2 54 rfl) rfl ?_
    refine ex_iload ok_L_law (mL2 55 rfl) rfl ?_
    refine ex_iconst ok_L_law (mL2 56 rfl) ?_
    refine ex_iadd ok_L_law (mL2 57 rfl) ?_
    refine ex_top (w := nI 3) (by decide) ?_
    refine ex_ialdx ok_L_law (mL2 58 rfl) (Or.inr k2) n2 (pk_in 3 4 (by decide)) (a2 3 (by decide)) ?_
    refine ex_aload_n ok_L_law (mL2 59 rfl) rfl ?_
    refine ex_callSHs (As := [_, _, _, _, _]) ok_L_law (mL3 0 rfl) rfl (l_reform0 hst hc f (by omega) k1 n1) rfl rfl rfl (by decide) (Nat.le_of_ble_eq_true rfl) ⟨hmc, hms⟩ (fun z h1 hl => ?_)
    obtain ⟨rfl, l1, l2, l3, l4⟩ := hl
    have fm1 : FM h1 (x + 892) := FM_sm (fun q a b => l4 q (Or.inr a) (by omega)) fm
    have m1 := l4 s (Or.inl hs) (by omega)
    have s1 := m1.1.trans k2
    have t1 := m1.2.1.trans n2
    have a1 : ∀ j, j < 4 → gx_A h1 s j = p j := fun j hj => (m1.2.2.2.2.1 j).trans (a2 j hj)
    refine ex_istore ok_L_law (mL3 1 rfl) ?_
    refine ex_aload_n ok_L_law (mL3 2 rfl) rfl ?_
    refine ex_aload_n ok_L_law (mL3 3 rfl) rfl ?_
    refine ex_iload ok_L_law (mL3 4 rfl) rfl ?_
    refine ex_iconst ok_L_law (mL3 5 rfl) ?_
    refine ex_iadd ok_L_law (mL3 6 rfl) ?_
    refine ex_top (w := nI 1) (by decide) ?_
    refine ex_ialdx ok_L_law (mL3 7 rfl) (Or.inr s1) t1 (pk_in 1 4 (by decide)) (a1 1 (by decide)) ?_
    refine ex_aload_n ok_L_law (mL3 8 rfl) rfl ?_
    refine ex_iload ok_L_law (mL3 9 rfl) rfl ?_
    refine ex_iconst ok_L_law (mL3 10 rfl) ?_
    refine ex_iadd ok_L_law (mL3 11 rfl) ?_
    refine ex_top (w := nI 2) (by decide) ?_
    refine ex_ialdx ok_L_law (mL3 12 rfl) (Or.inr s1) t1 (pk_in 2 4 (by decide)) (a1 2 (by decide)) ?_
    refine ex_aload_n ok_L_law (mL3 13 rfl) rfl ?_
    refine ex_iload ok_L_law (mL3 14 rfl) rfl ?_
    refine ex_iconst ok_L_law (mL3 15 rfl) ?_
    refine ex_iadd ok_L_law (mL3 16 rfl) ?_
    refine ex_top (w := nI 3) (by decide) ?_
    refine ex_ialdx ok_L_law (mL3 17 rfl) (Or.inr s1) t1 (pk_in 3 4 (by decide)) (a1 3 (by decide)) ?_
    refine ex_callVs (As := [_, _, _]) ok_L_law (mL3 18 rfl) rfl (MMs hm fm1) rfl (fk (x := x + 892) (a := 0) fm1.1 0 rfl) rfl rfl (by decide) (by decide) (Nat.le_of_ble_eq_true rfl) ⟨Nat.zero_le _, Nat.zero_le _⟩ (fun z h2 hl => ?_)
    obtain ⟨u, rfl, u1, u2, u3, u4⟩ := hl
    have m2 := u4.2 s (Or.inl (by omega))
    refine ex_istore ok_L_law (mL3 19 rfl) ?_
    refine ex_aload_n ok_L_law (mL3 20 rfl) rfl ?_
    refine ex_callVr (As := []) ok_L_law (mL3 21 rfl) rfl (m_X12_thrown hst u3 u2) rfl u3 rfl rfl (by decide) (by decide) (Nat.le_of_ble_eq_true rfl) ⟨Nat.zero_le _, Nat.zero_le _⟩ ?_
    refine ex_iload ok_L_law (mL3 22 rfl) rfl ?_
    refine ex_icmp_eq (tgt := 407) ok_L_law (mL3 23 rfl) rfl (fun _ => ?_) (fun hn => absurd rfl hn)
    refine ex_iload ok_L_law (mL3 26 rfl) rfl ?_
    refine ex_if_ne (tgt := 424) ok_L_law (mL3 27 rfl) rfl (fun hn => absurd (by decide) hn) (fun _ => ?_)
    refine ex_aload_n ok_L_law (mL3 28 rfl) rfl ?_
    refine ex_iconst ok_L_law (mL3 29 rfl) ?_
    obtain rfl := u1 rfl
    have m3 := u4.2 (x + 952) (Or.inr (by omega))
    refine ex_laldx (v := u.toInt64) ok_L_law (mL3 30 rfl) (m3.1.trans l2) (m3.2.1.trans l3) (pk_in 0 1 (by decide)) ((m3.2.2.2.2.2.1 0).trans (l1 rfl)) ?_
    refine ex_iload ok_L_law (mL3 31 rfl) rfl ?_
    refine ex_i2l ok_L_law (mL3 32 rfl) ?_
    refine ex_lcmp ok_L_law (mL3 33 rfl) ?_
    refine ex_top (w := 0) (lgc _) ?_
    refine ex_if_eq (tgt := 424) ok_L_law (mL3 34 rfl) rfl (fun _ => ?_) (fun hn => absurd rfl hn)
    refine ex_goto (tgt := 1545) ok_L_law (mL3 37 rfl) rfl ?_
    exact ex_ls (ls' := [(0, .ref s), (4, .int (nI 0))]) ⟨rfl, rfl, trivial⟩ (lw_end (m2.1.trans s1) (m2.2.1.trans t1) (hq _))
  · skip
    refine ex_aload_n ok_L_law (mL2 43 rfl) rfl ?_
    refine ex_aload_n ok_L_law (mL2 44 rfl) rfl ?_
    refine ex_iload ok_L_law (mL2 45 rfl) rfl ?_
    refine ex_iconst ok_L_law (mL2 46 rfl) ?_
    refine ex_iadd ok_L_law (mL2 47 rfl) ?_
    refine ex_top (w := nI 1) (by decide) ?_
    refine ex_ialdx ok_L_law (mL2 48 rfl) (Or.inr k2) n2 (pk_in 1 4 (by decide)) (a2 1 (by decide)) ?_
    refine ex_aload_n ok_L_law (mL2 49 rfl) rfl ?_
    refine ex_iload ok_L_law (mL2 50 rfl) rfl ?_
    refine ex_iconst ok_L_law (mL2 51 rfl) ?_
    refine ex_iadd ok_L_law (mL2 52 rfl) ?_
    refine ex_top (w := nI 2) (by decide) ?_
    refine ex_ialdx ok_L_law (mL2 53 rfl) (Or.inr k2) n2 (pk_in 2 4 (by decide)) (a2 2 (by decide)) ?_
    refine ex_aload_n ok_L_law (mL2 54 rfl) rfl ?_
    refine ex_iload ok_L_law (mL2 55 rfl) rfl ?_
    refine ex_iconst ok_L_law (mL2 56 rfl) ?_
    refine ex_iadd ok_L_law (mL2 57 rfl) ?_
    refine ex_top (w := nI 3) (by decide) ?_
    refine ex_ialdx ok_L_law (mL2 58 rfl) (Or.inr k2) n2 (pk_in 3 4 (by decide)) (a2 3 (by decide)) ?_
    refine ex_aload_n ok_L_law (mL2 59 rfl) rfl ?_
    refine ex_callSHs (As := [_, _, _, _, _]) ok_L_law (mL3 0 rfl) rfl (l_reform1 hst hc f (by omega) k1 n1) rfl rfl rfl (by decide) (Nat.le_of_ble_eq_true rfl) ⟨hmc, hms⟩ (fun z h1 hl => ?_)
    obtain ⟨rfl, l1, l2, l3, l4⟩ := hl
    have fm1 : FM h1 (x + 892) := FM_sm (fun q a b => l4 q (Or.inr a) (by omega)) fm
    have m1 := l4 s (Or.inl hs) (by omega)
    have s1 := m1.1.trans k2
    have t1 := m1.2.1.trans n2
    have a1 : ∀ j, j < 4 → gx_A h1 s j = p j := fun j hj => (m1.2.2.2.2.1 j).trans (a2 j hj)
    refine ex_istore ok_L_law (mL3 1 rfl) ?_
    refine ex_aload_n ok_L_law (mL3 2 rfl) rfl ?_
    refine ex_aload_n ok_L_law (mL3 3 rfl) rfl ?_
    refine ex_iload ok_L_law (mL3 4 rfl) rfl ?_
    refine ex_iconst ok_L_law (mL3 5 rfl) ?_
    refine ex_iadd ok_L_law (mL3 6 rfl) ?_
    refine ex_top (w := nI 1) (by decide) ?_
    refine ex_ialdx ok_L_law (mL3 7 rfl) (Or.inr s1) t1 (pk_in 1 4 (by decide)) (a1 1 (by decide)) ?_
    refine ex_aload_n ok_L_law (mL3 8 rfl) rfl ?_
    refine ex_iload ok_L_law (mL3 9 rfl) rfl ?_
    refine ex_iconst ok_L_law (mL3 10 rfl) ?_
    refine ex_iadd ok_L_law (mL3 11 rfl) ?_
    refine ex_top (w := nI 2) (by decide) ?_
    refine ex_ialdx ok_L_law (mL3 12 rfl) (Or.inr s1) t1 (pk_in 2 4 (by decide)) (a1 2 (by decide)) ?_
    refine ex_aload_n ok_L_law (mL3 13 rfl) rfl ?_
    refine ex_iload ok_L_law (mL3 14 rfl) rfl ?_
    refine ex_iconst ok_L_law (mL3 15 rfl) ?_
    refine ex_iadd ok_L_law (mL3 16 rfl) ?_
    refine ex_top (w := nI 3) (by decide) ?_
    refine ex_ialdx ok_L_law (mL3 17 rfl) (Or.inr s1) t1 (pk_in 3 4 (by decide)) (a1 3 (by decide)) ?_
    refine ex_callVs (As := [_, _, _]) ok_L_law (mL3 18 rfl) rfl (MMs hm fm1) rfl (fk (x := x + 892) (a := 0) fm1.1 0 rfl) rfl rfl (by decide) (by decide) (Nat.le_of_ble_eq_true rfl) ⟨Nat.zero_le _, Nat.zero_le _⟩ (fun z h2 hl => ?_)
    obtain ⟨u, rfl, u1, u2, u3, u4⟩ := hl
    have m2 := u4.2 s (Or.inl (by omega))
    refine ex_istore ok_L_law (mL3 19 rfl) ?_
    refine ex_aload_n ok_L_law (mL3 20 rfl) rfl ?_
    refine ex_callVr (As := []) ok_L_law (mL3 21 rfl) rfl (m_X12_thrown hst u3 u2) rfl u3 rfl rfl (by decide) (by decide) (Nat.le_of_ble_eq_true rfl) ⟨Nat.zero_le _, Nat.zero_le _⟩ ?_
    refine ex_iload ok_L_law (mL3 22 rfl) rfl ?_
    refine ex_icmp_eq (tgt := 407) ok_L_law (mL3 23 rfl) rfl (fun _ => ?_) (fun hn => absurd rfl hn)
    refine ex_iload ok_L_law (mL3 26 rfl) rfl ?_
    refine ex_if_ne (tgt := 424) ok_L_law (mL3 27 rfl) rfl (fun _ => ?_) (fun hn => absurd hn (by decide))
    refine ex_goto (tgt := 1545) ok_L_law (mL3 37 rfl) rfl ?_
    exact ex_ls (ls' := [(0, .ref s), (4, .int (nI 0))]) ⟨rfl, rfl, trivial⟩ (lw_end (m2.1.trans s1) (m2.2.1.trans t1) (hq _))
  · skip
    refine ex_aload_n ok_L_law (mL2 43 rfl) rfl ?_
    refine ex_aload_n ok_L_law (mL2 44 rfl) rfl ?_
    refine ex_iload ok_L_law (mL2 45 rfl) rfl ?_
    refine ex_iconst ok_L_law (mL2 46 rfl) ?_
    refine ex_iadd ok_L_law (mL2 47 rfl) ?_
    refine ex_top (w := nI 1) (by decide) ?_
    refine ex_ialdx ok_L_law (mL2 48 rfl) (Or.inr k2) n2 (pk_in 1 4 (by decide)) (a2 1 (by decide)) ?_
    refine ex_aload_n ok_L_law (mL2 49 rfl) rfl ?_
    refine ex_iload ok_L_law (mL2 50 rfl) rfl ?_
    refine ex_iconst ok_L_law (mL2 51 rfl) ?_
    refine ex_iadd ok_L_law (mL2 52 rfl) ?_
    refine ex_top (w := nI 2) (by decide) ?_
    refine ex_ialdx ok_L_law (mL2 53 rfl) (Or.inr k2) n2 (pk_in 2 4 (by decide)) (a2 2 (by decide)) ?_
    refine ex_aload_n ok_L_law (mL2 54 rfl) rfl ?_
    refine ex_iload ok_L_law (mL2 55 rfl) rfl ?_
    refine ex_iconst ok_L_law (mL2 56 rfl) ?_
    refine ex_iadd ok_L_law (mL2 57 rfl) ?_
    refine ex_top (w := nI 3) (by decide) ?_
    refine ex_ialdx ok_L_law (mL2 58 rfl) (Or.inr k2) n2 (pk_in 3 4 (by decide)) (a2 3 (by decide)) ?_
    refine ex_aload_n ok_L_law (mL2 59 rfl) rfl ?_
    refine ex_callSHs (As := [_, _, _, _, _]) ok_L_law (mL3 0 rfl) rfl (l_reform2 hst hc f (by omega) k1 n1) rfl rfl rfl (by decide) (Nat.le_of_ble_eq_true rfl) ⟨hmc, hms⟩ (fun z h1 hl => ?_)
    obtain ⟨rfl, l1, l2, l3, l4⟩ := hl
    have fm1 : FM h1 (x + 892) := FM_sm (fun q a b => l4 q (Or.inr a) (by omega)) fm
    have m1 := l4 s (Or.inl hs) (by omega)
    have s1 := m1.1.trans k2
    have t1 := m1.2.1.trans n2
    have a1 : ∀ j, j < 4 → gx_A h1 s j = p j := fun j hj => (m1.2.2.2.2.1 j).trans (a2 j hj)
    refine ex_istore ok_L_law (mL3 1 rfl) ?_
    refine ex_aload_n ok_L_law (mL3 2 rfl) rfl ?_
    refine ex_aload_n ok_L_law (mL3 3 rfl) rfl ?_
    refine ex_iload ok_L_law (mL3 4 rfl) rfl ?_
    refine ex_iconst ok_L_law (mL3 5 rfl) ?_
    refine ex_iadd ok_L_law (mL3 6 rfl) ?_
    refine ex_top (w := nI 1) (by decide) ?_
    refine ex_ialdx ok_L_law (mL3 7 rfl) (Or.inr s1) t1 (pk_in 1 4 (by decide)) (a1 1 (by decide)) ?_
    refine ex_aload_n ok_L_law (mL3 8 rfl) rfl ?_
    refine ex_iload ok_L_law (mL3 9 rfl) rfl ?_
    refine ex_iconst ok_L_law (mL3 10 rfl) ?_
    refine ex_iadd ok_L_law (mL3 11 rfl) ?_
    refine ex_top (w := nI 2) (by decide) ?_
    refine ex_ialdx ok_L_law (mL3 12 rfl) (Or.inr s1) t1 (pk_in 2 4 (by decide)) (a1 2 (by decide)) ?_
    refine ex_aload_n ok_L_law (mL3 13 rfl) rfl ?_
    refine ex_iload ok_L_law (mL3 14 rfl) rfl ?_
    refine ex_iconst ok_L_law (mL3 15 rfl) ?_
    refine ex_iadd ok_L_law (mL3 16 rfl) ?_
    refine ex_top (w := nI 3) (by decide) ?_
    refine ex_ialdx ok_L_law (mL3 17 rfl) (Or.inr s1) t1 (pk_in 3 4 (by decide)) (a1 3 (by decide)) ?_
    refine ex_callVs (As := [_, _, _]) ok_L_law (mL3 18 rfl) rfl (MMs hm fm1) rfl (fk (x := x + 892) (a := 0) fm1.1 0 rfl) rfl rfl (by decide) (by decide) (Nat.le_of_ble_eq_true rfl) ⟨Nat.zero_le _, Nat.zero_le _⟩ (fun z h2 hl => ?_)
    obtain ⟨u, rfl, u1, u2, u3, u4⟩ := hl
    have m2 := u4.2 s (Or.inl (by omega))
    refine ex_istore ok_L_law (mL3 19 rfl) ?_
    refine ex_aload_n ok_L_law (mL3 20 rfl) rfl ?_
    refine ex_callVr (As := []) ok_L_law (mL3 21 rfl) rfl (m_X12_thrown hst u3 u2) rfl u3 rfl rfl (by decide) (by decide) (Nat.le_of_ble_eq_true rfl) ⟨Nat.zero_le _, Nat.zero_le _⟩ ?_
    refine ex_iload ok_L_law (mL3 22 rfl) rfl ?_
    refine ex_icmp_eq (tgt := 407) ok_L_law (mL3 23 rfl) rfl (fun _ => ?_) (fun hn => absurd rfl hn)
    refine ex_iload ok_L_law (mL3 26 rfl) rfl ?_
    refine ex_if_ne (tgt := 424) ok_L_law (mL3 27 rfl) rfl (fun _ => ?_) (fun hn => absurd hn (by decide))
    refine ex_goto (tgt := 1545) ok_L_law (mL3 37 rfl) rfl ?_
    exact ex_ls (ls' := [(0, .ref s), (4, .int (nI 0))]) ⟨rfl, rfl, trivial⟩ (lw_end (m2.1.trans s1) (m2.2.1.trans t1) (hq _))
theorem w_again {G : GE} (hst : (ge_l G).stackTraces = false) {x s mc ms : Nat} {h : GT} {Q : RT → GT → Prop} {p : Nat → Int32} (w : LW h x s p) (hmc : 4 ≤ mc) (hms : 24 ≤ ms) (hq : ∀ h', Q (.inl (some (.int (nI 1)))) h') : ex_W G 10 mc ms M_L_law 427 [(0, .ref s), (1, .ref x), (2, .ref (x + 892)), (3, .ref (x + 952)), (4, .int (nI 0))] [] h Q := by
  obtain ⟨f, fm, k1, n1, hs, k2, n2, a2⟩ := w
  obtain ⟨k, v, hk, hc, hm⟩ := b_again (x := x) (y := x + 892) hst (p 1)
  rcases (by omega : k = 0 ∨ k = 1) with rfl | rfl
  · skip
    refine ex_aload_n ok_L_law (mL3 38 rfl) rfl ?_
    refine ex_aload_n ok_L_law (mL3 39 rfl) rfl ?_
    refine ex_iload ok_L_law (mL3 40 rfl) rfl ?_
    refine ex_iconst ok_L_law (mL3 41 rfl) ?_
    refine ex_iadd ok_L_law (mL3 42 rfl) ?_
    refine ex_top (w := nI 1) (by decide) ?_
    refine ex_ialdx ok_L_law (mL3 43 rfl) (Or.inr k2) n2 (pk_in 1 4 (by decide)) (a2 1 (by decide)) ?_
    refine ex_aload_n ok_L_law (mL3 44 rfl) rfl ?_
    refine ex_callSHs (As := [_, _, _]) ok_L_law (mL3 45 rfl) rfl (l_again0 hst hc f (by omega) k1 n1) rfl rfl rfl (by decide) (Nat.le_of_ble_eq_true rfl) ⟨hmc, hms⟩ (fun z h1 hl => ?_)
    obtain ⟨rfl, l1, l2, l3, l4⟩ := hl
    have fm1 : FM h1 (x + 892) := FM_sm (fun q a b => l4 q (Or.inr a) (by omega)) fm
    have m1 := l4 s (Or.inl hs) (by omega)
    have s1 := m1.1.trans k2
    have t1 := m1.2.1.trans n2
    have a1 : ∀ j, j < 4 → gx_A h1 s j = p j := fun j hj => (m1.2.2.2.2.1 j).trans (a2 j hj)
    refine ex_istore ok_L_law (mL3 46 rfl) ?_
    refine ex_aload_n ok_L_law (mL3 47 rfl) rfl ?_
    refine ex_aload_n ok_L_law (mL3 48 rfl) rfl ?_
    refine ex_iload ok_L_law (mL3 49 rfl) rfl ?_
    refine ex_iconst ok_L_law (mL3 50 rfl) ?_
    refine ex_iadd ok_L_law (mL3 51 rfl) ?_
    refine ex_top (w := nI 1) (by decide) ?_
    refine ex_ialdx ok_L_law (mL3 52 rfl) (Or.inr s1) t1 (pk_in 1 4 (by decide)) (a1 1 (by decide)) ?_
    refine ex_callVs (As := [_]) ok_L_law (mL3 53 rfl) rfl (MMs hm fm1) rfl (fk (x := x + 892) (a := 0) fm1.1 0 rfl) rfl rfl (by decide) (by decide) (Nat.le_of_ble_eq_true rfl) ⟨Nat.zero_le _, Nat.zero_le _⟩ (fun z h2 hl => ?_)
    obtain ⟨u, rfl, u1, u2, u3, u4⟩ := hl
    have m2 := u4.2 s (Or.inl (by omega))
    refine ex_istore ok_L_law (mL3 54 rfl) ?_
    refine ex_aload_n ok_L_law (mL3 55 rfl) rfl ?_
    refine ex_callVr (As := []) ok_L_law (mL3 56 rfl) rfl (m_X12_thrown hst u3 u2) rfl u3 rfl rfl (by decide) (by decide) (Nat.le_of_ble_eq_true rfl) ⟨Nat.zero_le _, Nat.zero_le _⟩ ?_
    refine ex_iload ok_L_law (mL3 57 rfl) rfl ?_
    refine ex_icmp_eq (tgt := 463) ok_L_law (mL3 58 rfl) rfl (fun _ => ?_) (fun hn => absurd rfl hn)
    refine ex_iload ok_L_law (mL4 1 rfl) rfl ?_
    refine ex_if_ne (tgt := 480) ok_L_law (mL4 2 rfl) rfl (fun hn => absurd (by decide) hn) (fun _ => ?_)
    refine ex_aload_n ok_L_law (mL4 3 rfl) rfl ?_
    refine ex_iconst ok_L_law (mL4 4 rfl) ?_
    obtain rfl := u1 rfl
    have m3 := u4.2 (x + 952) (Or.inr (by omega))
    refine ex_laldx (v := u.toInt64) ok_L_law (mL4 5 rfl) (m3.1.trans l2) (m3.2.1.trans l3) (pk_in 0 1 (by decide)) ((m3.2.2.2.2.2.1 0).trans (l1 rfl)) ?_
    refine ex_iload ok_L_law (mL4 6 rfl) rfl ?_
    refine ex_i2l ok_L_law (mL4 7 rfl) ?_
    refine ex_lcmp ok_L_law (mL4 8 rfl) ?_
    refine ex_top (w := 0) (lgc _) ?_
    refine ex_if_eq (tgt := 480) ok_L_law (mL4 9 rfl) rfl (fun _ => ?_) (fun hn => absurd rfl hn)
    refine ex_goto (tgt := 1545) ok_L_law (mL4 12 rfl) rfl ?_
    exact ex_ls (ls' := [(0, .ref s), (4, .int (nI 0))]) ⟨rfl, rfl, trivial⟩ (lw_end (m2.1.trans s1) (m2.2.1.trans t1) (hq _))
  · skip
    refine ex_aload_n ok_L_law (mL3 38 rfl) rfl ?_
    refine ex_aload_n ok_L_law (mL3 39 rfl) rfl ?_
    refine ex_iload ok_L_law (mL3 40 rfl) rfl ?_
    refine ex_iconst ok_L_law (mL3 41 rfl) ?_
    refine ex_iadd ok_L_law (mL3 42 rfl) ?_
    refine ex_top (w := nI 1) (by decide) ?_
    refine ex_ialdx ok_L_law (mL3 43 rfl) (Or.inr k2) n2 (pk_in 1 4 (by decide)) (a2 1 (by decide)) ?_
    refine ex_aload_n ok_L_law (mL3 44 rfl) rfl ?_
    refine ex_callSHs (As := [_, _, _]) ok_L_law (mL3 45 rfl) rfl (l_again1 hst hc f (by omega) k1 n1) rfl rfl rfl (by decide) (Nat.le_of_ble_eq_true rfl) ⟨hmc, hms⟩ (fun z h1 hl => ?_)
    obtain ⟨rfl, l1, l2, l3, l4⟩ := hl
    have fm1 : FM h1 (x + 892) := FM_sm (fun q a b => l4 q (Or.inr a) (by omega)) fm
    have m1 := l4 s (Or.inl hs) (by omega)
    have s1 := m1.1.trans k2
    have t1 := m1.2.1.trans n2
    have a1 : ∀ j, j < 4 → gx_A h1 s j = p j := fun j hj => (m1.2.2.2.2.1 j).trans (a2 j hj)
    refine ex_istore ok_L_law (mL3 46 rfl) ?_
    refine ex_aload_n ok_L_law (mL3 47 rfl) rfl ?_
    refine ex_aload_n ok_L_law (mL3 48 rfl) rfl ?_
    refine ex_iload ok_L_law (mL3 49 rfl) rfl ?_
    refine ex_iconst ok_L_law (mL3 50 rfl) ?_
    refine ex_iadd ok_L_law (mL3 51 rfl) ?_
    refine ex_top (w := nI 1) (by decide) ?_
    refine ex_ialdx ok_L_law (mL3 52 rfl) (Or.inr s1) t1 (pk_in 1 4 (by decide)) (a1 1 (by decide)) ?_
    refine ex_callVs (As := [_]) ok_L_law (mL3 53 rfl) rfl (MMs hm fm1) rfl (fk (x := x + 892) (a := 0) fm1.1 0 rfl) rfl rfl (by decide) (by decide) (Nat.le_of_ble_eq_true rfl) ⟨Nat.zero_le _, Nat.zero_le _⟩ (fun z h2 hl => ?_)
    obtain ⟨u, rfl, u1, u2, u3, u4⟩ := hl
    have m2 := u4.2 s (Or.inl (by omega))
    refine ex_istore ok_L_law (mL3 54 rfl) ?_
    refine ex_aload_n ok_L_law (mL3 55 rfl) rfl ?_
    refine ex_callVr (As := []) ok_L_law (mL3 56 rfl) rfl (m_X12_thrown hst u3 u2) rfl u3 rfl rfl (by decide) (by decide) (Nat.le_of_ble_eq_true rfl) ⟨Nat.zero_le _, Nat.zero_le _⟩ ?_
    refine ex_iload ok_L_law (mL3 57 rfl) rfl ?_
    refine ex_icmp_eq (tgt := 463) ok_L_law (mL3 58 rfl) rfl (fun _ => ?_) (fun hn => absurd rfl hn)
    refine ex_iload ok_L_law (mL4 1 rfl) rfl ?_
    refine ex_if_ne (tgt := 480) ok_L_law (mL4 2 rfl) rfl (fun _ => ?_) (fun hn => absurd hn (by decide))
    refine ex_goto (tgt := 1545) ok_L_law (mL4 12 rfl) rfl ?_
    exact ex_ls (ls' := [(0, .ref s), (4, .int (nI 0))]) ⟨rfl, rfl, trivial⟩ (lw_end (m2.1.trans s1) (m2.2.1.trans t1) (hq _))
theorem w_deliver {G : GE} (hst : (ge_l G).stackTraces = false) {x s mc ms : Nat} {h : GT} {Q : RT → GT → Prop} {p : Nat → Int32} (w : LW h x s p) (hmc : 4 ≤ mc) (hms : 24 ≤ ms) (hq : ∀ h', Q (.inl (some (.int (nI 1)))) h') : ex_W G 10 mc ms M_L_law 483 [(0, .ref s), (1, .ref x), (2, .ref (x + 892)), (3, .ref (x + 952)), (4, .int (nI 0))] [] h Q := by
  obtain ⟨f, fm, k1, n1, hs, k2, n2, a2⟩ := w
  obtain ⟨k, v, hk, hc, hm⟩ := b_deliver (x := x) (y := x + 892) hst (p 1)
  subst hk
  refine ex_aload_n ok_L_law (mL4 13 rfl) rfl ?_
  refine ex_aload_n ok_L_law (mL4 14 rfl) rfl ?_
  refine ex_iload ok_L_law (mL4 15 rfl) rfl ?_
  refine ex_iconst ok_L_law (mL4 16 rfl) ?_
  refine ex_iadd ok_L_law (mL4 17 rfl) ?_
  refine ex_top (w := nI 1) (by decide) ?_
  refine ex_ialdx ok_L_law (mL4 18 rfl) (Or.inr k2) n2 (pk_in 1 4 (by decide)) (a2 1 (by decide)) ?_
  refine ex_aload_n ok_L_law (mL4 19 rfl) rfl ?_
  refine ex_callSHs (As := [_, _, _]) ok_L_law (mL4 20 rfl) rfl (l_deliver1 hst hc f (by omega) k1 n1) rfl rfl rfl (by decide) (Nat.le_of_ble_eq_true rfl) ⟨hmc, hms⟩ (fun z h1 hl => ?_)
  obtain ⟨rfl, l1, l2, l3, l4⟩ := hl
  have fm1 : FM h1 (x + 892) := FM_sm (fun q a b => l4 q (Or.inr a) (by omega)) fm
  have m1 := l4 s (Or.inl hs) (by omega)
  have s1 := m1.1.trans k2
  have t1 := m1.2.1.trans n2
  have a1 : ∀ j, j < 4 → gx_A h1 s j = p j := fun j hj => (m1.2.2.2.2.1 j).trans (a2 j hj)
  refine ex_istore ok_L_law (mL4 21 rfl) ?_
  refine ex_aload_n ok_L_law (mL4 22 rfl) rfl ?_
  refine ex_aload_n ok_L_law (mL4 23 rfl) rfl ?_
  refine ex_iload ok_L_law (mL4 24 rfl) rfl ?_
  refine ex_iconst ok_L_law (mL4 25 rfl) ?_
  refine ex_iadd ok_L_law (mL4 26 rfl) ?_
  refine ex_top (w := nI 1) (by decide) ?_
  refine ex_ialdx ok_L_law (mL4 27 rfl) (Or.inr s1) t1 (pk_in 1 4 (by decide)) (a1 1 (by decide)) ?_
  refine ex_callVs (As := [_]) ok_L_law (mL4 28 rfl) rfl (MMs hm fm1) rfl (fk (x := x + 892) (a := 0) fm1.1 0 rfl) rfl rfl (by decide) (by decide) (Nat.le_of_ble_eq_true rfl) ⟨Nat.zero_le _, Nat.zero_le _⟩ (fun z h2 hl => ?_)
  obtain ⟨u, rfl, u1, u2, u3, u4⟩ := hl
  have m2 := u4.2 s (Or.inl (by omega))
  refine ex_istore ok_L_law (mL4 29 rfl) ?_
  refine ex_aload_n ok_L_law (mL4 30 rfl) rfl ?_
  refine ex_callVr (As := []) ok_L_law (mL4 31 rfl) rfl (m_X12_thrown hst u3 u2) rfl u3 rfl rfl (by decide) (by decide) (Nat.le_of_ble_eq_true rfl) ⟨Nat.zero_le _, Nat.zero_le _⟩ ?_
  refine ex_iload ok_L_law (mL4 32 rfl) rfl ?_
  refine ex_icmp_eq (tgt := 519) ok_L_law (mL4 33 rfl) rfl (fun _ => ?_) (fun hn => absurd rfl hn)
  refine ex_iload ok_L_law (mL4 36 rfl) rfl ?_
  refine ex_if_ne (tgt := 536) ok_L_law (mL4 37 rfl) rfl (fun _ => ?_) (fun hn => absurd hn (by decide))
  refine ex_goto (tgt := 1545) ok_L_law (mL4 47 rfl) rfl ?_
  exact ex_ls (ls' := [(0, .ref s), (4, .int (nI 0))]) ⟨rfl, rfl, trivial⟩ (lw_end (m2.1.trans s1) (m2.2.1.trans t1) (hq _))
theorem w_run {G : GE} (hst : (ge_l G).stackTraces = false) {x s mc ms : Nat} {h : GT} {Q : RT → GT → Prop} {p : Nat → Int32} (w : LW h x s p) (hmc : 4 ≤ mc) (hms : 24 ≤ ms) (hq : ∀ h', Q (.inl (some (.int (nI 1)))) h') : ex_W G 10 mc ms M_L_law 539 [(0, .ref s), (1, .ref x), (2, .ref (x + 892)), (3, .ref (x + 952)), (4, .int (nI 0))] [] h Q := by
  obtain ⟨f, fm, k1, n1, hs, k2, n2, a2⟩ := w
  obtain ⟨k, v, hk, hc, hm⟩ := b_run (x := x) (y := x + 892) hst (p 1)
  rcases (by omega : k = 0 ∨ k = 1) with rfl | rfl
  · skip
    refine ex_aload_n ok_L_law (mL4 48 rfl) rfl ?_
    refine ex_aload_n ok_L_law (mL4 49 rfl) rfl ?_
    refine ex_iload ok_L_law (mL4 50 rfl) rfl ?_
    refine ex_iconst ok_L_law (mL4 51 rfl) ?_
    refine ex_iadd ok_L_law (mL4 52 rfl) ?_
    refine ex_top (w := nI 1) (by decide) ?_
    refine ex_ialdx ok_L_law (mL4 53 rfl) (Or.inr k2) n2 (pk_in 1 4 (by decide)) (a2 1 (by decide)) ?_
    refine ex_aload_n ok_L_law (mL4 54 rfl) rfl ?_
    refine ex_callSHs (As := [_, _, _]) ok_L_law (mL4 55 rfl) rfl (l_run0 hst hc f (by omega) k1 n1) rfl rfl rfl (by decide) (Nat.le_of_ble_eq_true rfl) ⟨hmc, hms⟩ (fun z h1 hl => ?_)
    obtain ⟨rfl, l1, l2, l3, l4⟩ := hl
    have fm1 : FM h1 (x + 892) := FM_sm (fun q a b => l4 q (Or.inr a) (by omega)) fm
    have m1 := l4 s (Or.inl hs) (by omega)
    have s1 := m1.1.trans k2
    have t1 := m1.2.1.trans n2
    have a1 : ∀ j, j < 4 → gx_A h1 s j = p j := fun j hj => (m1.2.2.2.2.1 j).trans (a2 j hj)
    refine ex_istore ok_L_law (mL4 56 rfl) ?_
    refine ex_aload_n ok_L_law (mL4 57 rfl) rfl ?_
    refine ex_aload_n ok_L_law (mL4 58 rfl) rfl ?_
    refine ex_iload ok_L_law (mL4 59 rfl) rfl ?_
    refine ex_iconst ok_L_law (mL5 0 rfl) ?_
    refine ex_iadd ok_L_law (mL5 1 rfl) ?_
    refine ex_top (w := nI 1) (by decide) ?_
    refine ex_ialdx ok_L_law (mL5 2 rfl) (Or.inr s1) t1 (pk_in 1 4 (by decide)) (a1 1 (by decide)) ?_
    refine ex_callVs (As := [_]) ok_L_law (mL5 3 rfl) rfl (MMs hm fm1) rfl (fk (x := x + 892) (a := 0) fm1.1 0 rfl) rfl rfl (by decide) (by decide) (Nat.le_of_ble_eq_true rfl) ⟨Nat.zero_le _, Nat.zero_le _⟩ (fun z h2 hl => ?_)
    obtain ⟨u, rfl, u1, u2, u3, u4⟩ := hl
    have m2 := u4.2 s (Or.inl (by omega))
    refine ex_istore ok_L_law (mL5 4 rfl) ?_
    refine ex_aload_n ok_L_law (mL5 5 rfl) rfl ?_
    refine ex_callVr (As := []) ok_L_law (mL5 6 rfl) rfl (m_X12_thrown hst u3 u2) rfl u3 rfl rfl (by decide) (by decide) (Nat.le_of_ble_eq_true rfl) ⟨Nat.zero_le _, Nat.zero_le _⟩ ?_
    refine ex_iload ok_L_law (mL5 7 rfl) rfl ?_
    refine ex_icmp_eq (tgt := 575) ok_L_law (mL5 8 rfl) rfl (fun _ => ?_) (fun hn => absurd rfl hn)
    refine ex_iload ok_L_law (mL5 11 rfl) rfl ?_
    refine ex_if_ne (tgt := 592) ok_L_law (mL5 12 rfl) rfl (fun hn => absurd (by decide) hn) (fun _ => ?_)
    refine ex_aload_n ok_L_law (mL5 13 rfl) rfl ?_
    refine ex_iconst ok_L_law (mL5 14 rfl) ?_
    obtain rfl := u1 rfl
    have m3 := u4.2 (x + 952) (Or.inr (by omega))
    refine ex_laldx (v := u.toInt64) ok_L_law (mL5 15 rfl) (m3.1.trans l2) (m3.2.1.trans l3) (pk_in 0 1 (by decide)) ((m3.2.2.2.2.2.1 0).trans (l1 rfl)) ?_
    refine ex_iload ok_L_law (mL5 16 rfl) rfl ?_
    refine ex_i2l ok_L_law (mL5 17 rfl) ?_
    refine ex_lcmp ok_L_law (mL5 18 rfl) ?_
    refine ex_top (w := 0) (lgc _) ?_
    refine ex_if_eq (tgt := 592) ok_L_law (mL5 19 rfl) rfl (fun _ => ?_) (fun hn => absurd rfl hn)
    refine ex_goto (tgt := 1545) ok_L_law (mL5 22 rfl) rfl ?_
    exact ex_ls (ls' := [(0, .ref s), (4, .int (nI 0))]) ⟨rfl, rfl, trivial⟩ (lw_end (m2.1.trans s1) (m2.2.1.trans t1) (hq _))
  · skip
    refine ex_aload_n ok_L_law (mL4 48 rfl) rfl ?_
    refine ex_aload_n ok_L_law (mL4 49 rfl) rfl ?_
    refine ex_iload ok_L_law (mL4 50 rfl) rfl ?_
    refine ex_iconst ok_L_law (mL4 51 rfl) ?_
    refine ex_iadd ok_L_law (mL4 52 rfl) ?_
    refine ex_top (w := nI 1) (by decide) ?_
    refine ex_ialdx ok_L_law (mL4 53 rfl) (Or.inr k2) n2 (pk_in 1 4 (by decide)) (a2 1 (by decide)) ?_
    refine ex_aload_n ok_L_law (mL4 54 rfl) rfl ?_
    refine ex_callSHs (As := [_, _, _]) ok_L_law (mL4 55 rfl) rfl (l_run1 hst hc f (by omega) k1 n1) rfl rfl rfl (by decide) (Nat.le_of_ble_eq_true rfl) ⟨hmc, hms⟩ (fun z h1 hl => ?_)
    obtain ⟨rfl, l1, l2, l3, l4⟩ := hl
    have fm1 : FM h1 (x + 892) := FM_sm (fun q a b => l4 q (Or.inr a) (by omega)) fm
    have m1 := l4 s (Or.inl hs) (by omega)
    have s1 := m1.1.trans k2
    have t1 := m1.2.1.trans n2
    have a1 : ∀ j, j < 4 → gx_A h1 s j = p j := fun j hj => (m1.2.2.2.2.1 j).trans (a2 j hj)
    refine ex_istore ok_L_law (mL4 56 rfl) ?_
    refine ex_aload_n ok_L_law (mL4 57 rfl) rfl ?_
    refine ex_aload_n ok_L_law (mL4 58 rfl) rfl ?_
    refine ex_iload ok_L_law (mL4 59 rfl) rfl ?_
    refine ex_iconst ok_L_law (mL5 0 rfl) ?_
    refine ex_iadd ok_L_law (mL5 1 rfl) ?_
    refine ex_top (w := nI 1) (by decide) ?_
    refine ex_ialdx ok_L_law (mL5 2 rfl) (Or.inr s1) t1 (pk_in 1 4 (by decide)) (a1 1 (by decide)) ?_
    refine ex_callVs (As := [_]) ok_L_law (mL5 3 rfl) rfl (MMs hm fm1) rfl (fk (x := x + 892) (a := 0) fm1.1 0 rfl) rfl rfl (by decide) (by decide) (Nat.le_of_ble_eq_true rfl) ⟨Nat.zero_le _, Nat.zero_le _⟩ (fun z h2 hl => ?_)
    obtain ⟨u, rfl, u1, u2, u3, u4⟩ := hl
    have m2 := u4.2 s (Or.inl (by omega))
    refine ex_istore ok_L_law (mL5 4 rfl) ?_
    refine ex_aload_n ok_L_law (mL5 5 rfl) rfl ?_
    refine ex_callVr (As := []) ok_L_law (mL5 6 rfl) rfl (m_X12_thrown hst u3 u2) rfl u3 rfl rfl (by decide) (by decide) (Nat.le_of_ble_eq_true rfl) ⟨Nat.zero_le _, Nat.zero_le _⟩ ?_
    refine ex_iload ok_L_law (mL5 7 rfl) rfl ?_
    refine ex_icmp_eq (tgt := 575) ok_L_law (mL5 8 rfl) rfl (fun _ => ?_) (fun hn => absurd rfl hn)
    refine ex_iload ok_L_law (mL5 11 rfl) rfl ?_
    refine ex_if_ne (tgt := 592) ok_L_law (mL5 12 rfl) rfl (fun _ => ?_) (fun hn => absurd hn (by decide))
    refine ex_goto (tgt := 1545) ok_L_law (mL5 22 rfl) rfl ?_
    exact ex_ls (ls' := [(0, .ref s), (4, .int (nI 0))]) ⟨rfl, rfl, trivial⟩ (lw_end (m2.1.trans s1) (m2.2.1.trans t1) (hq _))
theorem w_lose {G : GE} (hst : (ge_l G).stackTraces = false) {x s mc ms : Nat} {h : GT} {Q : RT → GT → Prop} {p : Nat → Int32} (w : LW h x s p) (hmc : 4 ≤ mc) (hms : 24 ≤ ms) (hq : ∀ h', Q (.inl (some (.int (nI 1)))) h') : ex_W G 10 mc ms M_L_law 595 [(0, .ref s), (1, .ref x), (2, .ref (x + 892)), (3, .ref (x + 952)), (4, .int (nI 0))] [] h Q := by
  obtain ⟨f, fm, k1, n1, hs, k2, n2, a2⟩ := w
  obtain ⟨k, v, hk, hc, hm⟩ := b_lose (x := x) (y := x + 892) hst (p 1)
  subst hk
  refine ex_aload_n ok_L_law (mL5 23 rfl) rfl ?_
  refine ex_aload_n ok_L_law (mL5 24 rfl) rfl ?_
  refine ex_iload ok_L_law (mL5 25 rfl) rfl ?_
  refine ex_iconst ok_L_law (mL5 26 rfl) ?_
  refine ex_iadd ok_L_law (mL5 27 rfl) ?_
  refine ex_top (w := nI 1) (by decide) ?_
  refine ex_ialdx ok_L_law (mL5 28 rfl) (Or.inr k2) n2 (pk_in 1 4 (by decide)) (a2 1 (by decide)) ?_
  refine ex_aload_n ok_L_law (mL5 29 rfl) rfl ?_
  refine ex_callSHs (As := [_, _, _]) ok_L_law (mL5 30 rfl) rfl (l_lose1 hst hc f (by omega) k1 n1) rfl rfl rfl (by decide) (Nat.le_of_ble_eq_true rfl) ⟨hmc, hms⟩ (fun z h1 hl => ?_)
  obtain ⟨rfl, l1, l2, l3, l4⟩ := hl
  have fm1 : FM h1 (x + 892) := FM_sm (fun q a b => l4 q (Or.inr a) (by omega)) fm
  have m1 := l4 s (Or.inl hs) (by omega)
  have s1 := m1.1.trans k2
  have t1 := m1.2.1.trans n2
  have a1 : ∀ j, j < 4 → gx_A h1 s j = p j := fun j hj => (m1.2.2.2.2.1 j).trans (a2 j hj)
  refine ex_istore ok_L_law (mL5 31 rfl) ?_
  refine ex_aload_n ok_L_law (mL5 32 rfl) rfl ?_
  refine ex_aload_n ok_L_law (mL5 33 rfl) rfl ?_
  refine ex_iload ok_L_law (mL5 34 rfl) rfl ?_
  refine ex_iconst ok_L_law (mL5 35 rfl) ?_
  refine ex_iadd ok_L_law (mL5 36 rfl) ?_
  refine ex_top (w := nI 1) (by decide) ?_
  refine ex_ialdx ok_L_law (mL5 37 rfl) (Or.inr s1) t1 (pk_in 1 4 (by decide)) (a1 1 (by decide)) ?_
  refine ex_callVs (As := [_]) ok_L_law (mL5 38 rfl) rfl (MMs hm fm1) rfl (fk (x := x + 892) (a := 0) fm1.1 0 rfl) rfl rfl (by decide) (by decide) (Nat.le_of_ble_eq_true rfl) ⟨Nat.zero_le _, Nat.zero_le _⟩ (fun z h2 hl => ?_)
  obtain ⟨u, rfl, u1, u2, u3, u4⟩ := hl
  have m2 := u4.2 s (Or.inl (by omega))
  refine ex_istore ok_L_law (mL5 39 rfl) ?_
  refine ex_aload_n ok_L_law (mL5 40 rfl) rfl ?_
  refine ex_callVr (As := []) ok_L_law (mL5 41 rfl) rfl (m_X12_thrown hst u3 u2) rfl u3 rfl rfl (by decide) (by decide) (Nat.le_of_ble_eq_true rfl) ⟨Nat.zero_le _, Nat.zero_le _⟩ ?_
  refine ex_iload ok_L_law (mL5 42 rfl) rfl ?_
  refine ex_icmp_eq (tgt := 631) ok_L_law (mL5 43 rfl) rfl (fun _ => ?_) (fun hn => absurd rfl hn)
  refine ex_iload ok_L_law (mL5 46 rfl) rfl ?_
  refine ex_if_ne (tgt := 648) ok_L_law (mL5 47 rfl) rfl (fun _ => ?_) (fun hn => absurd hn (by decide))
  refine ex_goto (tgt := 1545) ok_L_law (mL5 57 rfl) rfl ?_
  exact ex_ls (ls' := [(0, .ref s), (4, .int (nI 0))]) ⟨rfl, rfl, trivial⟩ (lw_end (m2.1.trans s1) (m2.2.1.trans t1) (hq _))
theorem w_twice {G : GE} (hst : (ge_l G).stackTraces = false) {x s mc ms : Nat} {h : GT} {Q : RT → GT → Prop} {p : Nat → Int32} (w : LW h x s p) (hmc : 4 ≤ mc) (hms : 24 ≤ ms) (hq : ∀ h', Q (.inl (some (.int (nI 1)))) h') : ex_W G 10 mc ms M_L_law 651 [(0, .ref s), (1, .ref x), (2, .ref (x + 892)), (3, .ref (x + 952)), (4, .int (nI 0))] [] h Q := by
  obtain ⟨f, fm, k1, n1, hs, k2, n2, a2⟩ := w
  obtain ⟨k, v, hk, hc, hm⟩ := b_twice (x := x) (y := x + 892) hst (p 1)
  subst hk
  refine ex_aload_n ok_L_law (mL5 58 rfl) rfl ?_
  refine ex_aload_n ok_L_law (mL5 59 rfl) rfl ?_
  refine ex_iload ok_L_law (mL6 0 rfl) rfl ?_
  refine ex_iconst ok_L_law (mL6 1 rfl) ?_
  refine ex_iadd ok_L_law (mL6 2 rfl) ?_
  refine ex_top (w := nI 1) (by decide) ?_
  refine ex_ialdx ok_L_law (mL6 3 rfl) (Or.inr k2) n2 (pk_in 1 4 (by decide)) (a2 1 (by decide)) ?_
  refine ex_aload_n ok_L_law (mL6 4 rfl) rfl ?_
  refine ex_callSHs (As := [_, _, _]) ok_L_law (mL6 5 rfl) rfl (l_twice1 hst hc f (by omega) k1 n1) rfl rfl rfl (by decide) (Nat.le_of_ble_eq_true rfl) ⟨hmc, hms⟩ (fun z h1 hl => ?_)
  obtain ⟨rfl, l1, l2, l3, l4⟩ := hl
  have fm1 : FM h1 (x + 892) := FM_sm (fun q a b => l4 q (Or.inr a) (by omega)) fm
  have m1 := l4 s (Or.inl hs) (by omega)
  have s1 := m1.1.trans k2
  have t1 := m1.2.1.trans n2
  have a1 : ∀ j, j < 4 → gx_A h1 s j = p j := fun j hj => (m1.2.2.2.2.1 j).trans (a2 j hj)
  refine ex_istore ok_L_law (mL6 6 rfl) ?_
  refine ex_aload_n ok_L_law (mL6 7 rfl) rfl ?_
  refine ex_aload_n ok_L_law (mL6 8 rfl) rfl ?_
  refine ex_iload ok_L_law (mL6 9 rfl) rfl ?_
  refine ex_iconst ok_L_law (mL6 10 rfl) ?_
  refine ex_iadd ok_L_law (mL6 11 rfl) ?_
  refine ex_top (w := nI 1) (by decide) ?_
  refine ex_ialdx ok_L_law (mL6 12 rfl) (Or.inr s1) t1 (pk_in 1 4 (by decide)) (a1 1 (by decide)) ?_
  refine ex_callVs (As := [_]) ok_L_law (mL6 13 rfl) rfl (MMs hm fm1) rfl (fk (x := x + 892) (a := 0) fm1.1 0 rfl) rfl rfl (by decide) (by decide) (Nat.le_of_ble_eq_true rfl) ⟨Nat.zero_le _, Nat.zero_le _⟩ (fun z h2 hl => ?_)
  obtain ⟨u, rfl, u1, u2, u3, u4⟩ := hl
  have m2 := u4.2 s (Or.inl (by omega))
  refine ex_istore ok_L_law (mL6 14 rfl) ?_
  refine ex_aload_n ok_L_law (mL6 15 rfl) rfl ?_
  refine ex_callVr (As := []) ok_L_law (mL6 16 rfl) rfl (m_X12_thrown hst u3 u2) rfl u3 rfl rfl (by decide) (by decide) (Nat.le_of_ble_eq_true rfl) ⟨Nat.zero_le _, Nat.zero_le _⟩ ?_
  refine ex_iload ok_L_law (mL6 17 rfl) rfl ?_
  refine ex_icmp_eq (tgt := 687) ok_L_law (mL6 18 rfl) rfl (fun _ => ?_) (fun hn => absurd rfl hn)
  refine ex_iload ok_L_law (mL6 21 rfl) rfl ?_
  refine ex_if_ne (tgt := 704) ok_L_law (mL6 22 rfl) rfl (fun _ => ?_) (fun hn => absurd hn (by decide))
  refine ex_goto (tgt := 1545) ok_L_law (mL6 32 rfl) rfl ?_
  exact ex_ls (ls' := [(0, .ref s), (4, .int (nI 0))]) ⟨rfl, rfl, trivial⟩ (lw_end (m2.1.trans s1) (m2.2.1.trans t1) (hq _))
theorem w_up {G : GE} (hst : (ge_l G).stackTraces = false) {x s mc ms : Nat} {h : GT} {Q : RT → GT → Prop} {p : Nat → Int32} (w : LW h x s p) (hmc : 4 ≤ mc) (hms : 24 ≤ ms) (hq : ∀ h', Q (.inl (some (.int (nI 1)))) h') : ex_W G 10 mc ms M_L_law 707 [(0, .ref s), (1, .ref x), (2, .ref (x + 892)), (3, .ref (x + 952)), (4, .int (nI 0))] [] h Q := by
  obtain ⟨f, fm, k1, n1, hs, k2, n2, a2⟩ := w
  by_cases e3 : p 3 = 0
  · skip
    obtain ⟨k, v, hk, hv, hc, hm⟩ := b_up (x := x) (y := x + 892) hst (p 1) (p 2) (nI 0) (Or.inl rfl)
    rcases (by omega : k = 0 ∨ k = 1) with rfl | rfl
    · skip
      obtain rfl := hv rfl
      refine ex_aload_n ok_L_law (mL6 33 rfl) rfl ?_
      refine ex_aload_n ok_L_law (mL6 34 rfl) rfl ?_
      refine ex_iload ok_L_law (mL6 35 rfl) rfl ?_
      refine ex_iconst ok_L_law (mL6 36 rfl) ?_
      refine ex_iadd ok_L_law (mL6 37 rfl) ?_
      refine ex_top (w := nI 1) (by decide) ?_
      refine ex_ialdx ok_L_law (mL6 38 rfl) (Or.inr k2) n2 (pk_in 1 4 (by decide)) (a2 1 (by decide)) ?_
      refine ex_aload_n ok_L_law (mL6 39 rfl) rfl ?_
      refine ex_iload ok_L_law (mL6 40 rfl) rfl ?_
      refine ex_iconst ok_L_law (mL6 41 rfl) ?_
      refine ex_iadd ok_L_law (mL6 42 rfl) ?_
      refine ex_top (w := nI 2) (by decide) ?_
      refine ex_ialdx ok_L_law (mL6 43 rfl) (Or.inr k2) n2 (pk_in 2 4 (by decide)) (a2 2 (by decide)) ?_
      refine ex_aload_n ok_L_law (mL6 44 rfl) rfl ?_
      refine ex_iload ok_L_law (mL6 45 rfl) rfl ?_
      refine ex_iconst ok_L_law (mL6 46 rfl) ?_
      refine ex_iadd ok_L_law (mL6 47 rfl) ?_
      refine ex_top (w := nI 3) (by decide) ?_
      refine ex_ialdx ok_L_law (mL6 48 rfl) (Or.inr k2) n2 (pk_in 3 4 (by decide)) (a2 3 (by decide)) ?_
      refine ex_if_eq (tgt := 733) ok_L_law (mL6 49 rfl) rfl (fun _ => ?_) (fun hn => absurd e3 hn)
      refine ex_iconst ok_L_law (mL6 52 rfl) ?_
      refine ex_aload_n ok_L_law (mL6 53 rfl) rfl ?_
      refine ex_callSHs (As := [_, _, _, _, _]) ok_L_law (mL6 54 rfl) rfl (l_up0 hst hc f (by omega) k1 n1) rfl rfl rfl (by decide) (Nat.le_of_ble_eq_true rfl) ⟨hmc, hms⟩ (fun z h1 hl => ?_)
      obtain ⟨rfl, l1, l2, l3, l4⟩ := hl
      have fm1 : FM h1 (x + 892) := FM_sm (fun q a b => l4 q (Or.inr a) (by omega)) fm
      have m1 := l4 s (Or.inl hs) (by omega)
      have s1 := m1.1.trans k2
      have t1 := m1.2.1.trans n2
      have a1 : ∀ j, j < 4 → gx_A h1 s j = p j := fun j hj => (m1.2.2.2.2.1 j).trans (a2 j hj)
      refine ex_istore ok_L_law (mL6 55 rfl) ?_
      refine ex_aload_n ok_L_law (mL6 56 rfl) rfl ?_
      refine ex_aload_n ok_L_law (mL6 57 rfl) rfl ?_
      refine ex_iload ok_L_law (mL6 58 rfl) rfl ?_
      refine ex_iconst ok_L_law (mL6 59 rfl) ?_
      refine ex_iadd ok_L_law (mL7 0 rfl) ?_
      refine ex_top (w := nI 1) (by decide) ?_
      refine ex_ialdx ok_L_law (mL7 1 rfl) (Or.inr s1) t1 (pk_in 1 4 (by decide)) (a1 1 (by decide)) ?_
      refine ex_aload_n ok_L_law (mL7 2 rfl) rfl ?_
      refine ex_iload ok_L_law (mL7 3 rfl) rfl ?_
      refine ex_iconst ok_L_law (mL7 4 rfl) ?_
      refine ex_iadd ok_L_law (mL7 5 rfl) ?_
      refine ex_top (w := nI 2) (by decide) ?_
      refine ex_ialdx ok_L_law (mL7 6 rfl) (Or.inr s1) t1 (pk_in 2 4 (by decide)) (a1 2 (by decide)) ?_
      refine ex_aload_n ok_L_law (mL7 7 rfl) rfl ?_
      refine ex_iload ok_L_law (mL7 8 rfl) rfl ?_
      refine ex_iconst ok_L_law (mL7 9 rfl) ?_
      refine ex_iadd ok_L_law (mL7 10 rfl) ?_
      refine ex_top (w := nI 3) (by decide) ?_
      refine ex_ialdx ok_L_law (mL7 11 rfl) (Or.inr s1) t1 (pk_in 3 4 (by decide)) (a1 3 (by decide)) ?_
      refine ex_if_eq (tgt := 766) ok_L_law (mL7 12 rfl) rfl (fun _ => ?_) (fun hn => absurd e3 hn)
      refine ex_iconst ok_L_law (mL7 15 rfl) ?_
      refine ex_callVs (As := [_, _, _]) ok_L_law (mL7 16 rfl) rfl (MMs hm fm1) rfl (fk (x := x + 892) (a := 0) fm1.1 0 rfl) rfl rfl (by decide) (by decide) (Nat.le_of_ble_eq_true rfl) ⟨Nat.zero_le _, Nat.zero_le _⟩ (fun z h2 hl => ?_)
      obtain ⟨u, rfl, u1, u2, u3, u4⟩ := hl
      have m2 := u4.2 s (Or.inl (by omega))
      refine ex_istore ok_L_law (mL7 17 rfl) ?_
      refine ex_aload_n ok_L_law (mL7 18 rfl) rfl ?_
      refine ex_callVr (As := []) ok_L_law (mL7 19 rfl) rfl (m_X12_thrown hst u3 u2) rfl u3 rfl rfl (by decide) (by decide) (Nat.le_of_ble_eq_true rfl) ⟨Nat.zero_le _, Nat.zero_le _⟩ ?_
      refine ex_iload ok_L_law (mL7 20 rfl) rfl ?_
      refine ex_icmp_eq (tgt := 783) ok_L_law (mL7 21 rfl) rfl (fun _ => ?_) (fun hn => absurd rfl hn)
      refine ex_iload ok_L_law (mL7 24 rfl) rfl ?_
      refine ex_if_ne (tgt := 807) ok_L_law (mL7 25 rfl) rfl (fun hn => absurd (by decide) hn) (fun _ => ?_)
      refine ex_aload_n ok_L_law (mL7 26 rfl) rfl ?_
      refine ex_iconst ok_L_law (mL7 27 rfl) ?_
      obtain rfl := u1 rfl
      have m3 := u4.2 (x + 952) (Or.inr (by omega))
      refine ex_laldx (v := (nI 1).toInt64) ok_L_law (mL7 28 rfl) (m3.1.trans l2) (m3.2.1.trans l3) (pk_in 0 1 (by decide)) ((m3.2.2.2.2.2.1 0).trans (l1 rfl)) ?_
      refine ex_iload ok_L_law (mL7 29 rfl) rfl ?_
      refine ex_if_eq (tgt := 800) ok_L_law (mL7 30 rfl) rfl (fun hn => absurd hn (by decide)) (fun _ => ?_)
      refine ex_lconst ok_L_law (mL7 31 rfl) ?_
      refine ex_goto (tgt := 801) ok_L_law (mL7 32 rfl) rfl ?_
      refine ex_lcmp ok_L_law (mL7 34 rfl) ?_
      refine ex_top (w := 0) (by decide) ?_
      refine ex_if_eq (tgt := 807) ok_L_law (mL7 35 rfl) rfl (fun _ => ?_) (fun hn => absurd rfl hn)
      refine ex_goto (tgt := 1545) ok_L_law (mL7 38 rfl) rfl ?_
      exact ex_ls (ls' := [(0, .ref s), (4, .int (nI 0))]) ⟨rfl, rfl, trivial⟩ (lw_end (m2.1.trans s1) (m2.2.1.trans t1) (hq _))
    · skip
      refine ex_aload_n ok_L_law (mL6 33 rfl) rfl ?_
      refine ex_aload_n ok_L_law (mL6 34 rfl) rfl ?_
      refine ex_iload ok_L_law (mL6 35 rfl) rfl ?_
      refine ex_iconst ok_L_law (mL6 36 rfl) ?_
      refine ex_iadd ok_L_law (mL6 37 rfl) ?_
      refine ex_top (w := nI 1) (by decide) ?_
      refine ex_ialdx ok_L_law (mL6 38 rfl) (Or.inr k2) n2 (pk_in 1 4 (by decide)) (a2 1 (by decide)) ?_
      refine ex_aload_n ok_L_law (mL6 39 rfl) rfl ?_
      refine ex_iload ok_L_law (mL6 40 rfl) rfl ?_
      refine ex_iconst ok_L_law (mL6 41 rfl) ?_
      refine ex_iadd ok_L_law (mL6 42 rfl) ?_
      refine ex_top (w := nI 2) (by decide) ?_
      refine ex_ialdx ok_L_law (mL6 43 rfl) (Or.inr k2) n2 (pk_in 2 4 (by decide)) (a2 2 (by decide)) ?_
      refine ex_aload_n ok_L_law (mL6 44 rfl) rfl ?_
      refine ex_iload ok_L_law (mL6 45 rfl) rfl ?_
      refine ex_iconst ok_L_law (mL6 46 rfl) ?_
      refine ex_iadd ok_L_law (mL6 47 rfl) ?_
      refine ex_top (w := nI 3) (by decide) ?_
      refine ex_ialdx ok_L_law (mL6 48 rfl) (Or.inr k2) n2 (pk_in 3 4 (by decide)) (a2 3 (by decide)) ?_
      refine ex_if_eq (tgt := 733) ok_L_law (mL6 49 rfl) rfl (fun _ => ?_) (fun hn => absurd e3 hn)
      refine ex_iconst ok_L_law (mL6 52 rfl) ?_
      refine ex_aload_n ok_L_law (mL6 53 rfl) rfl ?_
      refine ex_callSHs (As := [_, _, _, _, _]) ok_L_law (mL6 54 rfl) rfl (l_up1 hst hc f (by omega) k1 n1) rfl rfl rfl (by decide) (Nat.le_of_ble_eq_true rfl) ⟨hmc, hms⟩ (fun z h1 hl => ?_)
      obtain ⟨rfl, l1, l2, l3, l4⟩ := hl
      have fm1 : FM h1 (x + 892) := FM_sm (fun q a b => l4 q (Or.inr a) (by omega)) fm
      have m1 := l4 s (Or.inl hs) (by omega)
      have s1 := m1.1.trans k2
      have t1 := m1.2.1.trans n2
      have a1 : ∀ j, j < 4 → gx_A h1 s j = p j := fun j hj => (m1.2.2.2.2.1 j).trans (a2 j hj)
      refine ex_istore ok_L_law (mL6 55 rfl) ?_
      refine ex_aload_n ok_L_law (mL6 56 rfl) rfl ?_
      refine ex_aload_n ok_L_law (mL6 57 rfl) rfl ?_
      refine ex_iload ok_L_law (mL6 58 rfl) rfl ?_
      refine ex_iconst ok_L_law (mL6 59 rfl) ?_
      refine ex_iadd ok_L_law (mL7 0 rfl) ?_
      refine ex_top (w := nI 1) (by decide) ?_
      refine ex_ialdx ok_L_law (mL7 1 rfl) (Or.inr s1) t1 (pk_in 1 4 (by decide)) (a1 1 (by decide)) ?_
      refine ex_aload_n ok_L_law (mL7 2 rfl) rfl ?_
      refine ex_iload ok_L_law (mL7 3 rfl) rfl ?_
      refine ex_iconst ok_L_law (mL7 4 rfl) ?_
      refine ex_iadd ok_L_law (mL7 5 rfl) ?_
      refine ex_top (w := nI 2) (by decide) ?_
      refine ex_ialdx ok_L_law (mL7 6 rfl) (Or.inr s1) t1 (pk_in 2 4 (by decide)) (a1 2 (by decide)) ?_
      refine ex_aload_n ok_L_law (mL7 7 rfl) rfl ?_
      refine ex_iload ok_L_law (mL7 8 rfl) rfl ?_
      refine ex_iconst ok_L_law (mL7 9 rfl) ?_
      refine ex_iadd ok_L_law (mL7 10 rfl) ?_
      refine ex_top (w := nI 3) (by decide) ?_
      refine ex_ialdx ok_L_law (mL7 11 rfl) (Or.inr s1) t1 (pk_in 3 4 (by decide)) (a1 3 (by decide)) ?_
      refine ex_if_eq (tgt := 766) ok_L_law (mL7 12 rfl) rfl (fun _ => ?_) (fun hn => absurd e3 hn)
      refine ex_iconst ok_L_law (mL7 15 rfl) ?_
      refine ex_callVs (As := [_, _, _]) ok_L_law (mL7 16 rfl) rfl (MMs hm fm1) rfl (fk (x := x + 892) (a := 0) fm1.1 0 rfl) rfl rfl (by decide) (by decide) (Nat.le_of_ble_eq_true rfl) ⟨Nat.zero_le _, Nat.zero_le _⟩ (fun z h2 hl => ?_)
      obtain ⟨u, rfl, u1, u2, u3, u4⟩ := hl
      have m2 := u4.2 s (Or.inl (by omega))
      refine ex_istore ok_L_law (mL7 17 rfl) ?_
      refine ex_aload_n ok_L_law (mL7 18 rfl) rfl ?_
      refine ex_callVr (As := []) ok_L_law (mL7 19 rfl) rfl (m_X12_thrown hst u3 u2) rfl u3 rfl rfl (by decide) (by decide) (Nat.le_of_ble_eq_true rfl) ⟨Nat.zero_le _, Nat.zero_le _⟩ ?_
      refine ex_iload ok_L_law (mL7 20 rfl) rfl ?_
      refine ex_icmp_eq (tgt := 783) ok_L_law (mL7 21 rfl) rfl (fun _ => ?_) (fun hn => absurd rfl hn)
      refine ex_iload ok_L_law (mL7 24 rfl) rfl ?_
      refine ex_if_ne (tgt := 807) ok_L_law (mL7 25 rfl) rfl (fun _ => ?_) (fun hn => absurd hn (by decide))
      refine ex_goto (tgt := 1545) ok_L_law (mL7 38 rfl) rfl ?_
      exact ex_ls (ls' := [(0, .ref s), (4, .int (nI 0))]) ⟨rfl, rfl, trivial⟩ (lw_end (m2.1.trans s1) (m2.2.1.trans t1) (hq _))
  · skip
    obtain ⟨k, v, hk, hv, hc, hm⟩ := b_up (x := x) (y := x + 892) hst (p 1) (p 2) (nI 1) (Or.inr rfl)
    rcases (by omega : k = 0 ∨ k = 1) with rfl | rfl
    · skip
      obtain rfl := hv rfl
      refine ex_aload_n ok_L_law (mL6 33 rfl) rfl ?_
      refine ex_aload_n ok_L_law (mL6 34 rfl) rfl ?_
      refine ex_iload ok_L_law (mL6 35 rfl) rfl ?_
      refine ex_iconst ok_L_law (mL6 36 rfl) ?_
      refine ex_iadd ok_L_law (mL6 37 rfl) ?_
      refine ex_top (w := nI 1) (by decide) ?_
      refine ex_ialdx ok_L_law (mL6 38 rfl) (Or.inr k2) n2 (pk_in 1 4 (by decide)) (a2 1 (by decide)) ?_
      refine ex_aload_n ok_L_law (mL6 39 rfl) rfl ?_
      refine ex_iload ok_L_law (mL6 40 rfl) rfl ?_
      refine ex_iconst ok_L_law (mL6 41 rfl) ?_
      refine ex_iadd ok_L_law (mL6 42 rfl) ?_
      refine ex_top (w := nI 2) (by decide) ?_
      refine ex_ialdx ok_L_law (mL6 43 rfl) (Or.inr k2) n2 (pk_in 2 4 (by decide)) (a2 2 (by decide)) ?_
      refine ex_aload_n ok_L_law (mL6 44 rfl) rfl ?_
      refine ex_iload ok_L_law (mL6 45 rfl) rfl ?_
      refine ex_iconst ok_L_law (mL6 46 rfl) ?_
      refine ex_iadd ok_L_law (mL6 47 rfl) ?_
      refine ex_top (w := nI 3) (by decide) ?_
      refine ex_ialdx ok_L_law (mL6 48 rfl) (Or.inr k2) n2 (pk_in 3 4 (by decide)) (a2 3 (by decide)) ?_
      refine ex_if_eq (tgt := 733) ok_L_law (mL6 49 rfl) rfl (fun hn => absurd hn e3) (fun _ => ?_)
      refine ex_iconst ok_L_law (mL6 50 rfl) ?_
      refine ex_goto (tgt := 734) ok_L_law (mL6 51 rfl) rfl ?_
      refine ex_aload_n ok_L_law (mL6 53 rfl) rfl ?_
      refine ex_callSHs (As := [_, _, _, _, _]) ok_L_law (mL6 54 rfl) rfl (l_up0 hst hc f (by omega) k1 n1) rfl rfl rfl (by decide) (Nat.le_of_ble_eq_true rfl) ⟨hmc, hms⟩ (fun z h1 hl => ?_)
      obtain ⟨rfl, l1, l2, l3, l4⟩ := hl
      have fm1 : FM h1 (x + 892) := FM_sm (fun q a b => l4 q (Or.inr a) (by omega)) fm
      have m1 := l4 s (Or.inl hs) (by omega)
      have s1 := m1.1.trans k2
      have t1 := m1.2.1.trans n2
      have a1 : ∀ j, j < 4 → gx_A h1 s j = p j := fun j hj => (m1.2.2.2.2.1 j).trans (a2 j hj)
      refine ex_istore ok_L_law (mL6 55 rfl) ?_
      refine ex_aload_n ok_L_law (mL6 56 rfl) rfl ?_
      refine ex_aload_n ok_L_law (mL6 57 rfl) rfl ?_
      refine ex_iload ok_L_law (mL6 58 rfl) rfl ?_
      refine ex_iconst ok_L_law (mL6 59 rfl) ?_
      refine ex_iadd ok_L_law (mL7 0 rfl) ?_
      refine ex_top (w := nI 1) (by decide) ?_
      refine ex_ialdx ok_L_law (mL7 1 rfl) (Or.inr s1) t1 (pk_in 1 4 (by decide)) (a1 1 (by decide)) ?_
      refine ex_aload_n ok_L_law (mL7 2 rfl) rfl ?_
      refine ex_iload ok_L_law (mL7 3 rfl) rfl ?_
      refine ex_iconst ok_L_law (mL7 4 rfl) ?_
      refine ex_iadd ok_L_law (mL7 5 rfl) ?_
      refine ex_top (w := nI 2) (by decide) ?_
      refine ex_ialdx ok_L_law (mL7 6 rfl) (Or.inr s1) t1 (pk_in 2 4 (by decide)) (a1 2 (by decide)) ?_
      refine ex_aload_n ok_L_law (mL7 7 rfl) rfl ?_
      refine ex_iload ok_L_law (mL7 8 rfl) rfl ?_
      refine ex_iconst ok_L_law (mL7 9 rfl) ?_
      refine ex_iadd ok_L_law (mL7 10 rfl) ?_
      refine ex_top (w := nI 3) (by decide) ?_
      refine ex_ialdx ok_L_law (mL7 11 rfl) (Or.inr s1) t1 (pk_in 3 4 (by decide)) (a1 3 (by decide)) ?_
      refine ex_if_eq (tgt := 766) ok_L_law (mL7 12 rfl) rfl (fun hn => absurd hn e3) (fun _ => ?_)
      refine ex_iconst ok_L_law (mL7 13 rfl) ?_
      refine ex_goto (tgt := 767) ok_L_law (mL7 14 rfl) rfl ?_
      refine ex_callVs (As := [_, _, _]) ok_L_law (mL7 16 rfl) rfl (MMs hm fm1) rfl (fk (x := x + 892) (a := 0) fm1.1 0 rfl) rfl rfl (by decide) (by decide) (Nat.le_of_ble_eq_true rfl) ⟨Nat.zero_le _, Nat.zero_le _⟩ (fun z h2 hl => ?_)
      obtain ⟨u, rfl, u1, u2, u3, u4⟩ := hl
      have m2 := u4.2 s (Or.inl (by omega))
      refine ex_istore ok_L_law (mL7 17 rfl) ?_
      refine ex_aload_n ok_L_law (mL7 18 rfl) rfl ?_
      refine ex_callVr (As := []) ok_L_law (mL7 19 rfl) rfl (m_X12_thrown hst u3 u2) rfl u3 rfl rfl (by decide) (by decide) (Nat.le_of_ble_eq_true rfl) ⟨Nat.zero_le _, Nat.zero_le _⟩ ?_
      refine ex_iload ok_L_law (mL7 20 rfl) rfl ?_
      refine ex_icmp_eq (tgt := 783) ok_L_law (mL7 21 rfl) rfl (fun _ => ?_) (fun hn => absurd rfl hn)
      refine ex_iload ok_L_law (mL7 24 rfl) rfl ?_
      refine ex_if_ne (tgt := 807) ok_L_law (mL7 25 rfl) rfl (fun hn => absurd (by decide) hn) (fun _ => ?_)
      refine ex_aload_n ok_L_law (mL7 26 rfl) rfl ?_
      refine ex_iconst ok_L_law (mL7 27 rfl) ?_
      obtain rfl := u1 rfl
      have m3 := u4.2 (x + 952) (Or.inr (by omega))
      refine ex_laldx (v := (nI 1).toInt64) ok_L_law (mL7 28 rfl) (m3.1.trans l2) (m3.2.1.trans l3) (pk_in 0 1 (by decide)) ((m3.2.2.2.2.2.1 0).trans (l1 rfl)) ?_
      refine ex_iload ok_L_law (mL7 29 rfl) rfl ?_
      refine ex_if_eq (tgt := 800) ok_L_law (mL7 30 rfl) rfl (fun hn => absurd hn (by decide)) (fun _ => ?_)
      refine ex_lconst ok_L_law (mL7 31 rfl) ?_
      refine ex_goto (tgt := 801) ok_L_law (mL7 32 rfl) rfl ?_
      refine ex_lcmp ok_L_law (mL7 34 rfl) ?_
      refine ex_top (w := 0) (by decide) ?_
      refine ex_if_eq (tgt := 807) ok_L_law (mL7 35 rfl) rfl (fun _ => ?_) (fun hn => absurd rfl hn)
      refine ex_goto (tgt := 1545) ok_L_law (mL7 38 rfl) rfl ?_
      exact ex_ls (ls' := [(0, .ref s), (4, .int (nI 0))]) ⟨rfl, rfl, trivial⟩ (lw_end (m2.1.trans s1) (m2.2.1.trans t1) (hq _))
    · skip
      refine ex_aload_n ok_L_law (mL6 33 rfl) rfl ?_
      refine ex_aload_n ok_L_law (mL6 34 rfl) rfl ?_
      refine ex_iload ok_L_law (mL6 35 rfl) rfl ?_
      refine ex_iconst ok_L_law (mL6 36 rfl) ?_
      refine ex_iadd ok_L_law (mL6 37 rfl) ?_
      refine ex_top (w := nI 1) (by decide) ?_
      refine ex_ialdx ok_L_law (mL6 38 rfl) (Or.inr k2) n2 (pk_in 1 4 (by decide)) (a2 1 (by decide)) ?_
      refine ex_aload_n ok_L_law (mL6 39 rfl) rfl ?_
      refine ex_iload ok_L_law (mL6 40 rfl) rfl ?_
      refine ex_iconst ok_L_law (mL6 41 rfl) ?_
      refine ex_iadd ok_L_law (mL6 42 rfl) ?_
      refine ex_top (w := nI 2) (by decide) ?_
      refine ex_ialdx ok_L_law (mL6 43 rfl) (Or.inr k2) n2 (pk_in 2 4 (by decide)) (a2 2 (by decide)) ?_
      refine ex_aload_n ok_L_law (mL6 44 rfl) rfl ?_
      refine ex_iload ok_L_law (mL6 45 rfl) rfl ?_
      refine ex_iconst ok_L_law (mL6 46 rfl) ?_
      refine ex_iadd ok_L_law (mL6 47 rfl) ?_
      refine ex_top (w := nI 3) (by decide) ?_
      refine ex_ialdx ok_L_law (mL6 48 rfl) (Or.inr k2) n2 (pk_in 3 4 (by decide)) (a2 3 (by decide)) ?_
      refine ex_if_eq (tgt := 733) ok_L_law (mL6 49 rfl) rfl (fun hn => absurd hn e3) (fun _ => ?_)
      refine ex_iconst ok_L_law (mL6 50 rfl) ?_
      refine ex_goto (tgt := 734) ok_L_law (mL6 51 rfl) rfl ?_
      refine ex_aload_n ok_L_law (mL6 53 rfl) rfl ?_
      refine ex_callSHs (As := [_, _, _, _, _]) ok_L_law (mL6 54 rfl) rfl (l_up1 hst hc f (by omega) k1 n1) rfl rfl rfl (by decide) (Nat.le_of_ble_eq_true rfl) ⟨hmc, hms⟩ (fun z h1 hl => ?_)
      obtain ⟨rfl, l1, l2, l3, l4⟩ := hl
      have fm1 : FM h1 (x + 892) := FM_sm (fun q a b => l4 q (Or.inr a) (by omega)) fm
      have m1 := l4 s (Or.inl hs) (by omega)
      have s1 := m1.1.trans k2
      have t1 := m1.2.1.trans n2
      have a1 : ∀ j, j < 4 → gx_A h1 s j = p j := fun j hj => (m1.2.2.2.2.1 j).trans (a2 j hj)
      refine ex_istore ok_L_law (mL6 55 rfl) ?_
      refine ex_aload_n ok_L_law (mL6 56 rfl) rfl ?_
      refine ex_aload_n ok_L_law (mL6 57 rfl) rfl ?_
      refine ex_iload ok_L_law (mL6 58 rfl) rfl ?_
      refine ex_iconst ok_L_law (mL6 59 rfl) ?_
      refine ex_iadd ok_L_law (mL7 0 rfl) ?_
      refine ex_top (w := nI 1) (by decide) ?_
      refine ex_ialdx ok_L_law (mL7 1 rfl) (Or.inr s1) t1 (pk_in 1 4 (by decide)) (a1 1 (by decide)) ?_
      refine ex_aload_n ok_L_law (mL7 2 rfl) rfl ?_
      refine ex_iload ok_L_law (mL7 3 rfl) rfl ?_
      refine ex_iconst ok_L_law (mL7 4 rfl) ?_
      refine ex_iadd ok_L_law (mL7 5 rfl) ?_
      refine ex_top (w := nI 2) (by decide) ?_
      refine ex_ialdx ok_L_law (mL7 6 rfl) (Or.inr s1) t1 (pk_in 2 4 (by decide)) (a1 2 (by decide)) ?_
      refine ex_aload_n ok_L_law (mL7 7 rfl) rfl ?_
      refine ex_iload ok_L_law (mL7 8 rfl) rfl ?_
      refine ex_iconst ok_L_law (mL7 9 rfl) ?_
      refine ex_iadd ok_L_law (mL7 10 rfl) ?_
      refine ex_top (w := nI 3) (by decide) ?_
      refine ex_ialdx ok_L_law (mL7 11 rfl) (Or.inr s1) t1 (pk_in 3 4 (by decide)) (a1 3 (by decide)) ?_
      refine ex_if_eq (tgt := 766) ok_L_law (mL7 12 rfl) rfl (fun hn => absurd hn e3) (fun _ => ?_)
      refine ex_iconst ok_L_law (mL7 13 rfl) ?_
      refine ex_goto (tgt := 767) ok_L_law (mL7 14 rfl) rfl ?_
      refine ex_callVs (As := [_, _, _]) ok_L_law (mL7 16 rfl) rfl (MMs hm fm1) rfl (fk (x := x + 892) (a := 0) fm1.1 0 rfl) rfl rfl (by decide) (by decide) (Nat.le_of_ble_eq_true rfl) ⟨Nat.zero_le _, Nat.zero_le _⟩ (fun z h2 hl => ?_)
      obtain ⟨u, rfl, u1, u2, u3, u4⟩ := hl
      have m2 := u4.2 s (Or.inl (by omega))
      refine ex_istore ok_L_law (mL7 17 rfl) ?_
      refine ex_aload_n ok_L_law (mL7 18 rfl) rfl ?_
      refine ex_callVr (As := []) ok_L_law (mL7 19 rfl) rfl (m_X12_thrown hst u3 u2) rfl u3 rfl rfl (by decide) (by decide) (Nat.le_of_ble_eq_true rfl) ⟨Nat.zero_le _, Nat.zero_le _⟩ ?_
      refine ex_iload ok_L_law (mL7 20 rfl) rfl ?_
      refine ex_icmp_eq (tgt := 783) ok_L_law (mL7 21 rfl) rfl (fun _ => ?_) (fun hn => absurd rfl hn)
      refine ex_iload ok_L_law (mL7 24 rfl) rfl ?_
      refine ex_if_ne (tgt := 807) ok_L_law (mL7 25 rfl) rfl (fun _ => ?_) (fun hn => absurd hn (by decide))
      refine ex_goto (tgt := 1545) ok_L_law (mL7 38 rfl) rfl ?_
      exact ex_ls (ls' := [(0, .ref s), (4, .int (nI 0))]) ⟨rfl, rfl, trivial⟩ (lw_end (m2.1.trans s1) (m2.2.1.trans t1) (hq _))
theorem w_message {G : GE} (hst : (ge_l G).stackTraces = false) {x s mc ms : Nat} {h : GT} {Q : RT → GT → Prop} {p : Nat → Int32} (w : LW h x s p) (hmc : 4 ≤ mc) (hms : 24 ≤ ms) (hq : ∀ h', Q (.inl (some (.int (nI 1)))) h') : ex_W G 10 mc ms M_L_law 810 [(0, .ref s), (1, .ref x), (2, .ref (x + 892)), (3, .ref (x + 952)), (4, .int (nI 0))] [] h Q := by
  obtain ⟨f, fm, k1, n1, hs, k2, n2, a2⟩ := w
  obtain ⟨k, v, hk, hc, hm⟩ := b_message (x := x) (y := x + 892) hst (p 1) (p 2)
  subst hk
  refine ex_aload_n ok_L_law (mL7 39 rfl) rfl ?_
  refine ex_aload_n ok_L_law (mL7 40 rfl) rfl ?_
  refine ex_iload ok_L_law (mL7 41 rfl) rfl ?_
  refine ex_iconst ok_L_law (mL7 42 rfl) ?_
  refine ex_iadd ok_L_law (mL7 43 rfl) ?_
  refine ex_top (w := nI 1) (by decide) ?_
  refine ex_ialdx ok_L_law (mL7 44 rfl) (Or.inr k2) n2 (pk_in 1 4 (by decide)) (a2 1 (by decide)) ?_
  refine ex_aload_n ok_L_law (mL7 45 rfl) rfl ?_
  refine ex_iload ok_L_law (mL7 46 rfl) rfl ?_
  refine ex_iconst ok_L_law (mL7 47 rfl) ?_
  refine ex_iadd ok_L_law (mL7 48 rfl) ?_
  refine ex_top (w := nI 2) (by decide) ?_
  refine ex_ialdx ok_L_law (mL7 49 rfl) (Or.inr k2) n2 (pk_in 2 4 (by decide)) (a2 2 (by decide)) ?_
  refine ex_aload_n ok_L_law (mL7 50 rfl) rfl ?_
  refine ex_callSHs (As := [_, _, _, _]) ok_L_law (mL7 51 rfl) rfl (l_message1 hst hc f (by omega) k1 n1) rfl rfl rfl (by decide) (Nat.le_of_ble_eq_true rfl) ⟨hmc, hms⟩ (fun z h1 hl => ?_)
  obtain ⟨rfl, l1, l2, l3, l4⟩ := hl
  have fm1 : FM h1 (x + 892) := FM_sm (fun q a b => l4 q (Or.inr a) (by omega)) fm
  have m1 := l4 s (Or.inl hs) (by omega)
  have s1 := m1.1.trans k2
  have t1 := m1.2.1.trans n2
  have a1 : ∀ j, j < 4 → gx_A h1 s j = p j := fun j hj => (m1.2.2.2.2.1 j).trans (a2 j hj)
  refine ex_istore ok_L_law (mL7 52 rfl) ?_
  refine ex_aload_n ok_L_law (mL7 53 rfl) rfl ?_
  refine ex_aload_n ok_L_law (mL7 54 rfl) rfl ?_
  refine ex_iload ok_L_law (mL7 55 rfl) rfl ?_
  refine ex_iconst ok_L_law (mL7 56 rfl) ?_
  refine ex_iadd ok_L_law (mL7 57 rfl) ?_
  refine ex_top (w := nI 1) (by decide) ?_
  refine ex_ialdx ok_L_law (mL7 58 rfl) (Or.inr s1) t1 (pk_in 1 4 (by decide)) (a1 1 (by decide)) ?_
  refine ex_aload_n ok_L_law (mL7 59 rfl) rfl ?_
  refine ex_iload ok_L_law (mL8 0 rfl) rfl ?_
  refine ex_iconst ok_L_law (mL8 1 rfl) ?_
  refine ex_iadd ok_L_law (mL8 2 rfl) ?_
  refine ex_top (w := nI 2) (by decide) ?_
  refine ex_ialdx ok_L_law (mL8 3 rfl) (Or.inr s1) t1 (pk_in 2 4 (by decide)) (a1 2 (by decide)) ?_
  refine ex_callVs (As := [_, _]) ok_L_law (mL8 4 rfl) rfl (MMs hm fm1) rfl (fk (x := x + 892) (a := 0) fm1.1 0 rfl) rfl rfl (by decide) (by decide) (Nat.le_of_ble_eq_true rfl) ⟨Nat.zero_le _, Nat.zero_le _⟩ (fun z h2 hl => ?_)
  obtain ⟨u, rfl, u1, u2, u3, u4⟩ := hl
  have m2 := u4.2 s (Or.inl (by omega))
  refine ex_istore ok_L_law (mL8 5 rfl) ?_
  refine ex_aload_n ok_L_law (mL8 6 rfl) rfl ?_
  refine ex_callVr (As := []) ok_L_law (mL8 7 rfl) rfl (m_X12_thrown hst u3 u2) rfl u3 rfl rfl (by decide) (by decide) (Nat.le_of_ble_eq_true rfl) ⟨Nat.zero_le _, Nat.zero_le _⟩ ?_
  refine ex_iload ok_L_law (mL8 8 rfl) rfl ?_
  refine ex_icmp_eq (tgt := 858) ok_L_law (mL8 9 rfl) rfl (fun _ => ?_) (fun hn => absurd rfl hn)
  refine ex_iload ok_L_law (mL8 12 rfl) rfl ?_
  refine ex_if_ne (tgt := 875) ok_L_law (mL8 13 rfl) rfl (fun _ => ?_) (fun hn => absurd hn (by decide))
  refine ex_goto (tgt := 1545) ok_L_law (mL8 23 rfl) rfl ?_
  exact ex_ls (ls' := [(0, .ref s), (4, .int (nI 0))]) ⟨rfl, rfl, trivial⟩ (lw_end (m2.1.trans s1) (m2.2.1.trans t1) (hq _))
theorem w_leader {G : GE} (hst : (ge_l G).stackTraces = false) {x s mc ms : Nat} {h : GT} {Q : RT → GT → Prop} {p : Nat → Int32} (w : LW h x s p) (hmc : 4 ≤ mc) (hms : 24 ≤ ms) (hq : ∀ h', Q (.inl (some (.int (nI 1)))) h') : ex_W G 10 mc ms M_L_law 878 [(0, .ref s), (1, .ref x), (2, .ref (x + 892)), (3, .ref (x + 952)), (4, .int (nI 0))] [] h Q := by
  obtain ⟨f, fm, k1, n1, hs, k2, n2, a2⟩ := w
  obtain ⟨k, v, hk, hc, hm⟩ := b_leader (x := x) (y := x + 892) hst (p 1) (p 2)
  rcases (by omega : k = 0 ∨ k = 1) with rfl | rfl
  · skip
    refine ex_aload_n ok_L_law (mL8 24 rfl) rfl ?_
    refine ex_aload_n ok_L_law (mL8 25 rfl) rfl ?_
    refine ex_iload ok_L_law (mL8 26 rfl) rfl ?_
    refine ex_iconst ok_L_law (mL8 27 rfl) ?_
    refine ex_iadd ok_L_law (mL8 28 rfl) ?_
    refine ex_top (w := nI 1) (by decide) ?_
    refine ex_ialdx ok_L_law (mL8 29 rfl) (Or.inr k2) n2 (pk_in 1 4 (by decide)) (a2 1 (by decide)) ?_
    refine ex_aload_n ok_L_law (mL8 30 rfl) rfl ?_
    refine ex_iload ok_L_law (mL8 31 rfl) rfl ?_
    refine ex_iconst ok_L_law (mL8 32 rfl) ?_
    refine ex_iadd ok_L_law (mL8 33 rfl) ?_
    refine ex_top (w := nI 2) (by decide) ?_
    refine ex_ialdx ok_L_law (mL8 34 rfl) (Or.inr k2) n2 (pk_in 2 4 (by decide)) (a2 2 (by decide)) ?_
    refine ex_aload_n ok_L_law (mL8 35 rfl) rfl ?_
    refine ex_callSHs (As := [_, _, _, _]) ok_L_law (mL8 36 rfl) rfl (l_leader0 hst hc f (by omega) k1 n1) rfl rfl rfl (by decide) (Nat.le_of_ble_eq_true rfl) ⟨hmc, hms⟩ (fun z h1 hl => ?_)
    obtain ⟨rfl, l1, l2, l3, l4⟩ := hl
    have fm1 : FM h1 (x + 892) := FM_sm (fun q a b => l4 q (Or.inr a) (by omega)) fm
    have m1 := l4 s (Or.inl hs) (by omega)
    have s1 := m1.1.trans k2
    have t1 := m1.2.1.trans n2
    have a1 : ∀ j, j < 4 → gx_A h1 s j = p j := fun j hj => (m1.2.2.2.2.1 j).trans (a2 j hj)
    refine ex_istore ok_L_law (mL8 37 rfl) ?_
    refine ex_aload_n ok_L_law (mL8 38 rfl) rfl ?_
    refine ex_aload_n ok_L_law (mL8 39 rfl) rfl ?_
    refine ex_iload ok_L_law (mL8 40 rfl) rfl ?_
    refine ex_iconst ok_L_law (mL8 41 rfl) ?_
    refine ex_iadd ok_L_law (mL8 42 rfl) ?_
    refine ex_top (w := nI 1) (by decide) ?_
    refine ex_ialdx ok_L_law (mL8 43 rfl) (Or.inr s1) t1 (pk_in 1 4 (by decide)) (a1 1 (by decide)) ?_
    refine ex_aload_n ok_L_law (mL8 44 rfl) rfl ?_
    refine ex_iload ok_L_law (mL8 45 rfl) rfl ?_
    refine ex_iconst ok_L_law (mL8 46 rfl) ?_
    refine ex_iadd ok_L_law (mL8 47 rfl) ?_
    refine ex_top (w := nI 2) (by decide) ?_
    refine ex_ialdx ok_L_law (mL8 48 rfl) (Or.inr s1) t1 (pk_in 2 4 (by decide)) (a1 2 (by decide)) ?_
    refine ex_callVs (As := [_, _]) ok_L_law (mL8 49 rfl) rfl (MMs hm fm1) rfl (fk (x := x + 892) (a := 0) fm1.1 0 rfl) rfl rfl (by decide) (by decide) (Nat.le_of_ble_eq_true rfl) ⟨Nat.zero_le _, Nat.zero_le _⟩ (fun z h2 hl => ?_)
    obtain ⟨u, rfl, u1, u2, u3, u4⟩ := hl
    have m2 := u4.2 s (Or.inl (by omega))
    refine ex_istore ok_L_law (mL8 50 rfl) ?_
    refine ex_aload_n ok_L_law (mL8 51 rfl) rfl ?_
    refine ex_callVr (As := []) ok_L_law (mL8 52 rfl) rfl (m_X12_thrown hst u3 u2) rfl u3 rfl rfl (by decide) (by decide) (Nat.le_of_ble_eq_true rfl) ⟨Nat.zero_le _, Nat.zero_le _⟩ ?_
    refine ex_iload ok_L_law (mL8 53 rfl) rfl ?_
    refine ex_icmp_eq (tgt := 926) ok_L_law (mL8 54 rfl) rfl (fun _ => ?_) (fun hn => absurd rfl hn)
    refine ex_iload ok_L_law (mL8 57 rfl) rfl ?_
    refine ex_if_ne (tgt := 943) ok_L_law (mL8 58 rfl) rfl (fun hn => absurd (by decide) hn) (fun _ => ?_)
    refine ex_aload_n ok_L_law (mL8 59 rfl) rfl ?_
    refine ex_iconst ok_L_law (mL9 0 rfl) ?_
    obtain rfl := u1 rfl
    have m3 := u4.2 (x + 952) (Or.inr (by omega))
    refine ex_laldx (v := u.toInt64) ok_L_law (mL9 1 rfl) (m3.1.trans l2) (m3.2.1.trans l3) (pk_in 0 1 (by decide)) ((m3.2.2.2.2.2.1 0).trans (l1 rfl)) ?_
    refine ex_iload ok_L_law (mL9 2 rfl) rfl ?_
    refine ex_i2l ok_L_law (mL9 3 rfl) ?_
    refine ex_lcmp ok_L_law (mL9 4 rfl) ?_
    refine ex_top (w := 0) (lgc _) ?_
    refine ex_if_eq (tgt := 943) ok_L_law (mL9 5 rfl) rfl (fun _ => ?_) (fun hn => absurd rfl hn)
    refine ex_goto (tgt := 1545) ok_L_law (mL9 8 rfl) rfl ?_
    exact ex_ls (ls' := [(0, .ref s), (4, .int (nI 0))]) ⟨rfl, rfl, trivial⟩ (lw_end (m2.1.trans s1) (m2.2.1.trans t1) (hq _))
  · skip
    refine ex_aload_n ok_L_law (mL8 24 rfl) rfl ?_
    refine ex_aload_n ok_L_law (mL8 25 rfl) rfl ?_
    refine ex_iload ok_L_law (mL8 26 rfl) rfl ?_
    refine ex_iconst ok_L_law (mL8 27 rfl) ?_
    refine ex_iadd ok_L_law (mL8 28 rfl) ?_
    refine ex_top (w := nI 1) (by decide) ?_
    refine ex_ialdx ok_L_law (mL8 29 rfl) (Or.inr k2) n2 (pk_in 1 4 (by decide)) (a2 1 (by decide)) ?_
    refine ex_aload_n ok_L_law (mL8 30 rfl) rfl ?_
    refine ex_iload ok_L_law (mL8 31 rfl) rfl ?_
    refine ex_iconst ok_L_law (mL8 32 rfl) ?_
    refine ex_iadd ok_L_law (mL8 33 rfl) ?_
    refine ex_top (w := nI 2) (by decide) ?_
    refine ex_ialdx ok_L_law (mL8 34 rfl) (Or.inr k2) n2 (pk_in 2 4 (by decide)) (a2 2 (by decide)) ?_
    refine ex_aload_n ok_L_law (mL8 35 rfl) rfl ?_
    refine ex_callSHs (As := [_, _, _, _]) ok_L_law (mL8 36 rfl) rfl (l_leader1 hst hc f (by omega) k1 n1) rfl rfl rfl (by decide) (Nat.le_of_ble_eq_true rfl) ⟨hmc, hms⟩ (fun z h1 hl => ?_)
    obtain ⟨rfl, l1, l2, l3, l4⟩ := hl
    have fm1 : FM h1 (x + 892) := FM_sm (fun q a b => l4 q (Or.inr a) (by omega)) fm
    have m1 := l4 s (Or.inl hs) (by omega)
    have s1 := m1.1.trans k2
    have t1 := m1.2.1.trans n2
    have a1 : ∀ j, j < 4 → gx_A h1 s j = p j := fun j hj => (m1.2.2.2.2.1 j).trans (a2 j hj)
    refine ex_istore ok_L_law (mL8 37 rfl) ?_
    refine ex_aload_n ok_L_law (mL8 38 rfl) rfl ?_
    refine ex_aload_n ok_L_law (mL8 39 rfl) rfl ?_
    refine ex_iload ok_L_law (mL8 40 rfl) rfl ?_
    refine ex_iconst ok_L_law (mL8 41 rfl) ?_
    refine ex_iadd ok_L_law (mL8 42 rfl) ?_
    refine ex_top (w := nI 1) (by decide) ?_
    refine ex_ialdx ok_L_law (mL8 43 rfl) (Or.inr s1) t1 (pk_in 1 4 (by decide)) (a1 1 (by decide)) ?_
    refine ex_aload_n ok_L_law (mL8 44 rfl) rfl ?_
    refine ex_iload ok_L_law (mL8 45 rfl) rfl ?_
    refine ex_iconst ok_L_law (mL8 46 rfl) ?_
    refine ex_iadd ok_L_law (mL8 47 rfl) ?_
    refine ex_top (w := nI 2) (by decide) ?_
    refine ex_ialdx ok_L_law (mL8 48 rfl) (Or.inr s1) t1 (pk_in 2 4 (by decide)) (a1 2 (by decide)) ?_
    refine ex_callVs (As := [_, _]) ok_L_law (mL8 49 rfl) rfl (MMs hm fm1) rfl (fk (x := x + 892) (a := 0) fm1.1 0 rfl) rfl rfl (by decide) (by decide) (Nat.le_of_ble_eq_true rfl) ⟨Nat.zero_le _, Nat.zero_le _⟩ (fun z h2 hl => ?_)
    obtain ⟨u, rfl, u1, u2, u3, u4⟩ := hl
    have m2 := u4.2 s (Or.inl (by omega))
    refine ex_istore ok_L_law (mL8 50 rfl) ?_
    refine ex_aload_n ok_L_law (mL8 51 rfl) rfl ?_
    refine ex_callVr (As := []) ok_L_law (mL8 52 rfl) rfl (m_X12_thrown hst u3 u2) rfl u3 rfl rfl (by decide) (by decide) (Nat.le_of_ble_eq_true rfl) ⟨Nat.zero_le _, Nat.zero_le _⟩ ?_
    refine ex_iload ok_L_law (mL8 53 rfl) rfl ?_
    refine ex_icmp_eq (tgt := 926) ok_L_law (mL8 54 rfl) rfl (fun _ => ?_) (fun hn => absurd rfl hn)
    refine ex_iload ok_L_law (mL8 57 rfl) rfl ?_
    refine ex_if_ne (tgt := 943) ok_L_law (mL8 58 rfl) rfl (fun _ => ?_) (fun hn => absurd hn (by decide))
    refine ex_goto (tgt := 1545) ok_L_law (mL9 8 rfl) rfl ?_
    exact ex_ls (ls' := [(0, .ref s), (4, .int (nI 0))]) ⟨rfl, rfl, trivial⟩ (lw_end (m2.1.trans s1) (m2.2.1.trans t1) (hq _))
theorem w_slot {G : GE} (hst : (ge_l G).stackTraces = false) {x s mc ms : Nat} {h : GT} {Q : RT → GT → Prop} {p : Nat → Int32} (w : LW h x s p) (hmc : 4 ≤ mc) (hms : 24 ≤ ms) (hq : ∀ h', Q (.inl (some (.int (nI 1)))) h') : ex_W G 10 mc ms M_L_law 946 [(0, .ref s), (1, .ref x), (2, .ref (x + 892)), (3, .ref (x + 952)), (4, .int (nI 0))] [] h Q := by
  obtain ⟨f, fm, k1, n1, hs, k2, n2, a2⟩ := w
  obtain ⟨k, v, hk, hc, hm⟩ := b_slot (x := x) (y := x + 892) hst (p 1) (p 2) (p 3)
  rcases (by omega : k = 0 ∨ k = 1) with rfl | rfl
  · skip
    refine ex_aload_n ok_L_law (mL9 9 rfl) rfl ?_
    refine ex_aload_n ok_L_law (mL9 10 rfl) rfl ?_
    refine ex_iload ok_L_law (mL9 11 rfl) rfl ?_
    refine ex_iconst ok_L_law (mL9 12 rfl) ?_
    refine ex_iadd ok_L_law (mL9 13 rfl) ?_
    refine ex_top (w := nI 1) (by decide) ?_
    refine ex_ialdx ok_L_law (mL9 14 rfl) (Or.inr k2) n2 (pk_in 1 4 (by decide)) (a2 1 (by decide)) ?_
    refine ex_aload_n ok_L_law (mL9 15 rfl) rfl ?_
    refine ex_iload ok_L_law (mL9 16 rfl) rfl ?_
    refine ex_iconst ok_L_law (mL9 17 rfl) ?_
    refine ex_iadd ok_L_law (mL9 18 rfl) ?_
    refine ex_top (w := nI 2) (by decide) ?_
    refine ex_ialdx ok_L_law (mL9 19 rfl) (Or.inr k2) n2 (pk_in 2 4 (by decide)) (a2 2 (by decide)) ?_
    refine ex_aload_n ok_L_law (mL9 20 rfl) rfl ?_
    refine ex_iload ok_L_law (mL9 21 rfl) rfl ?_
    refine ex_iconst ok_L_law (mL9 22 rfl) ?_
    refine ex_iadd ok_L_law (mL9 23 rfl) ?_
    refine ex_top (w := nI 3) (by decide) ?_
    refine ex_ialdx ok_L_law (mL9 24 rfl) (Or.inr k2) n2 (pk_in 3 4 (by decide)) (a2 3 (by decide)) ?_
    refine ex_aload_n ok_L_law (mL9 25 rfl) rfl ?_
    refine ex_callSHs (As := [_, _, _, _, _]) ok_L_law (mL9 26 rfl) rfl (l_slot0 hst hc f (by omega) k1 n1) rfl rfl rfl (by decide) (Nat.le_of_ble_eq_true rfl) ⟨hmc, hms⟩ (fun z h1 hl => ?_)
    obtain ⟨rfl, l1, l2, l3, l4⟩ := hl
    have fm1 : FM h1 (x + 892) := FM_sm (fun q a b => l4 q (Or.inr a) (by omega)) fm
    have m1 := l4 s (Or.inl hs) (by omega)
    have s1 := m1.1.trans k2
    have t1 := m1.2.1.trans n2
    have a1 : ∀ j, j < 4 → gx_A h1 s j = p j := fun j hj => (m1.2.2.2.2.1 j).trans (a2 j hj)
    refine ex_istore ok_L_law (mL9 27 rfl) ?_
    refine ex_aload_n ok_L_law (mL9 28 rfl) rfl ?_
    refine ex_aload_n ok_L_law (mL9 29 rfl) rfl ?_
    refine ex_iload ok_L_law (mL9 30 rfl) rfl ?_
    refine ex_iconst ok_L_law (mL9 31 rfl) ?_
    refine ex_iadd ok_L_law (mL9 32 rfl) ?_
    refine ex_top (w := nI 1) (by decide) ?_
    refine ex_ialdx ok_L_law (mL9 33 rfl) (Or.inr s1) t1 (pk_in 1 4 (by decide)) (a1 1 (by decide)) ?_
    refine ex_aload_n ok_L_law (mL9 34 rfl) rfl ?_
    refine ex_iload ok_L_law (mL9 35 rfl) rfl ?_
    refine ex_iconst ok_L_law (mL9 36 rfl) ?_
    refine ex_iadd ok_L_law (mL9 37 rfl) ?_
    refine ex_top (w := nI 2) (by decide) ?_
    refine ex_ialdx ok_L_law (mL9 38 rfl) (Or.inr s1) t1 (pk_in 2 4 (by decide)) (a1 2 (by decide)) ?_
    refine ex_aload_n ok_L_law (mL9 39 rfl) rfl ?_
    refine ex_iload ok_L_law (mL9 40 rfl) rfl ?_
    refine ex_iconst ok_L_law (mL9 41 rfl) ?_
    refine ex_iadd ok_L_law (mL9 42 rfl) ?_
    refine ex_top (w := nI 3) (by decide) ?_
    refine ex_ialdx ok_L_law (mL9 43 rfl) (Or.inr s1) t1 (pk_in 3 4 (by decide)) (a1 3 (by decide)) ?_
    refine ex_callVs (As := [_, _, _]) ok_L_law (mL9 44 rfl) rfl (MMs hm fm1) rfl (fk (x := x + 892) (a := 0) fm1.1 0 rfl) rfl rfl (by decide) (by decide) (Nat.le_of_ble_eq_true rfl) ⟨Nat.zero_le _, Nat.zero_le _⟩ (fun z h2 hl => ?_)
    obtain ⟨u, rfl, u1, u2, u3, u4⟩ := hl
    have m2 := u4.2 s (Or.inl (by omega))
    refine ex_istore ok_L_law (mL9 45 rfl) ?_
    refine ex_aload_n ok_L_law (mL9 46 rfl) rfl ?_
    refine ex_callVr (As := []) ok_L_law (mL9 47 rfl) rfl (m_X12_thrown hst u3 u2) rfl u3 rfl rfl (by decide) (by decide) (Nat.le_of_ble_eq_true rfl) ⟨Nat.zero_le _, Nat.zero_le _⟩ ?_
    refine ex_iload ok_L_law (mL9 48 rfl) rfl ?_
    refine ex_icmp_eq (tgt := 1006) ok_L_law (mL9 49 rfl) rfl (fun _ => ?_) (fun hn => absurd rfl hn)
    refine ex_iload ok_L_law (mL9 52 rfl) rfl ?_
    refine ex_if_ne (tgt := 1023) ok_L_law (mL9 53 rfl) rfl (fun hn => absurd (by decide) hn) (fun _ => ?_)
    refine ex_aload_n ok_L_law (mL9 54 rfl) rfl ?_
    refine ex_iconst ok_L_law (mL9 55 rfl) ?_
    obtain rfl := u1 rfl
    have m3 := u4.2 (x + 952) (Or.inr (by omega))
    refine ex_laldx (v := u.toInt64) ok_L_law (mL9 56 rfl) (m3.1.trans l2) (m3.2.1.trans l3) (pk_in 0 1 (by decide)) ((m3.2.2.2.2.2.1 0).trans (l1 rfl)) ?_
    refine ex_iload ok_L_law (mL9 57 rfl) rfl ?_
    refine ex_i2l ok_L_law (mL9 58 rfl) ?_
    refine ex_lcmp ok_L_law (mL9 59 rfl) ?_
    refine ex_top (w := 0) (lgc _) ?_
    refine ex_if_eq (tgt := 1023) ok_L_law (mL10 0 rfl) rfl (fun _ => ?_) (fun hn => absurd rfl hn)
    refine ex_goto (tgt := 1545) ok_L_law (mL10 3 rfl) rfl ?_
    exact ex_ls (ls' := [(0, .ref s), (4, .int (nI 0))]) ⟨rfl, rfl, trivial⟩ (lw_end (m2.1.trans s1) (m2.2.1.trans t1) (hq _))
  · skip
    refine ex_aload_n ok_L_law (mL9 9 rfl) rfl ?_
    refine ex_aload_n ok_L_law (mL9 10 rfl) rfl ?_
    refine ex_iload ok_L_law (mL9 11 rfl) rfl ?_
    refine ex_iconst ok_L_law (mL9 12 rfl) ?_
    refine ex_iadd ok_L_law (mL9 13 rfl) ?_
    refine ex_top (w := nI 1) (by decide) ?_
    refine ex_ialdx ok_L_law (mL9 14 rfl) (Or.inr k2) n2 (pk_in 1 4 (by decide)) (a2 1 (by decide)) ?_
    refine ex_aload_n ok_L_law (mL9 15 rfl) rfl ?_
    refine ex_iload ok_L_law (mL9 16 rfl) rfl ?_
    refine ex_iconst ok_L_law (mL9 17 rfl) ?_
    refine ex_iadd ok_L_law (mL9 18 rfl) ?_
    refine ex_top (w := nI 2) (by decide) ?_
    refine ex_ialdx ok_L_law (mL9 19 rfl) (Or.inr k2) n2 (pk_in 2 4 (by decide)) (a2 2 (by decide)) ?_
    refine ex_aload_n ok_L_law (mL9 20 rfl) rfl ?_
    refine ex_iload ok_L_law (mL9 21 rfl) rfl ?_
    refine ex_iconst ok_L_law (mL9 22 rfl) ?_
    refine ex_iadd ok_L_law (mL9 23 rfl) ?_
    refine ex_top (w := nI 3) (by decide) ?_
    refine ex_ialdx ok_L_law (mL9 24 rfl) (Or.inr k2) n2 (pk_in 3 4 (by decide)) (a2 3 (by decide)) ?_
    refine ex_aload_n ok_L_law (mL9 25 rfl) rfl ?_
    refine ex_callSHs (As := [_, _, _, _, _]) ok_L_law (mL9 26 rfl) rfl (l_slot1 hst hc f (by omega) k1 n1) rfl rfl rfl (by decide) (Nat.le_of_ble_eq_true rfl) ⟨hmc, hms⟩ (fun z h1 hl => ?_)
    obtain ⟨rfl, l1, l2, l3, l4⟩ := hl
    have fm1 : FM h1 (x + 892) := FM_sm (fun q a b => l4 q (Or.inr a) (by omega)) fm
    have m1 := l4 s (Or.inl hs) (by omega)
    have s1 := m1.1.trans k2
    have t1 := m1.2.1.trans n2
    have a1 : ∀ j, j < 4 → gx_A h1 s j = p j := fun j hj => (m1.2.2.2.2.1 j).trans (a2 j hj)
    refine ex_istore ok_L_law (mL9 27 rfl) ?_
    refine ex_aload_n ok_L_law (mL9 28 rfl) rfl ?_
    refine ex_aload_n ok_L_law (mL9 29 rfl) rfl ?_
    refine ex_iload ok_L_law (mL9 30 rfl) rfl ?_
    refine ex_iconst ok_L_law (mL9 31 rfl) ?_
    refine ex_iadd ok_L_law (mL9 32 rfl) ?_
    refine ex_top (w := nI 1) (by decide) ?_
    refine ex_ialdx ok_L_law (mL9 33 rfl) (Or.inr s1) t1 (pk_in 1 4 (by decide)) (a1 1 (by decide)) ?_
    refine ex_aload_n ok_L_law (mL9 34 rfl) rfl ?_
    refine ex_iload ok_L_law (mL9 35 rfl) rfl ?_
    refine ex_iconst ok_L_law (mL9 36 rfl) ?_
    refine ex_iadd ok_L_law (mL9 37 rfl) ?_
    refine ex_top (w := nI 2) (by decide) ?_
    refine ex_ialdx ok_L_law (mL9 38 rfl) (Or.inr s1) t1 (pk_in 2 4 (by decide)) (a1 2 (by decide)) ?_
    refine ex_aload_n ok_L_law (mL9 39 rfl) rfl ?_
    refine ex_iload ok_L_law (mL9 40 rfl) rfl ?_
    refine ex_iconst ok_L_law (mL9 41 rfl) ?_
    refine ex_iadd ok_L_law (mL9 42 rfl) ?_
    refine ex_top (w := nI 3) (by decide) ?_
    refine ex_ialdx ok_L_law (mL9 43 rfl) (Or.inr s1) t1 (pk_in 3 4 (by decide)) (a1 3 (by decide)) ?_
    refine ex_callVs (As := [_, _, _]) ok_L_law (mL9 44 rfl) rfl (MMs hm fm1) rfl (fk (x := x + 892) (a := 0) fm1.1 0 rfl) rfl rfl (by decide) (by decide) (Nat.le_of_ble_eq_true rfl) ⟨Nat.zero_le _, Nat.zero_le _⟩ (fun z h2 hl => ?_)
    obtain ⟨u, rfl, u1, u2, u3, u4⟩ := hl
    have m2 := u4.2 s (Or.inl (by omega))
    refine ex_istore ok_L_law (mL9 45 rfl) ?_
    refine ex_aload_n ok_L_law (mL9 46 rfl) rfl ?_
    refine ex_callVr (As := []) ok_L_law (mL9 47 rfl) rfl (m_X12_thrown hst u3 u2) rfl u3 rfl rfl (by decide) (by decide) (Nat.le_of_ble_eq_true rfl) ⟨Nat.zero_le _, Nat.zero_le _⟩ ?_
    refine ex_iload ok_L_law (mL9 48 rfl) rfl ?_
    refine ex_icmp_eq (tgt := 1006) ok_L_law (mL9 49 rfl) rfl (fun _ => ?_) (fun hn => absurd rfl hn)
    refine ex_iload ok_L_law (mL9 52 rfl) rfl ?_
    refine ex_if_ne (tgt := 1023) ok_L_law (mL9 53 rfl) rfl (fun _ => ?_) (fun hn => absurd hn (by decide))
    refine ex_goto (tgt := 1545) ok_L_law (mL10 3 rfl) rfl ?_
    exact ex_ls (ls' := [(0, .ref s), (4, .int (nI 0))]) ⟨rfl, rfl, trivial⟩ (lw_end (m2.1.trans s1) (m2.2.1.trans t1) (hq _))
theorem w_keeper {G : GE} (hst : (ge_l G).stackTraces = false) {x s mc ms : Nat} {h : GT} {Q : RT → GT → Prop} {p : Nat → Int32} (w : LW h x s p) (hmc : 4 ≤ mc) (hms : 24 ≤ ms) (hq : ∀ h', Q (.inl (some (.int (nI 1)))) h') : ex_W G 10 mc ms M_L_law 1026 [(0, .ref s), (1, .ref x), (2, .ref (x + 892)), (3, .ref (x + 952)), (4, .int (nI 0))] [] h Q := by
  obtain ⟨f, fm, k1, n1, hs, k2, n2, a2⟩ := w
  obtain ⟨k, v, hk, hc, hm⟩ := b_keeper (x := x) (y := x + 892) hst (p 1) (p 2)
  rcases (by omega : k = 0 ∨ k = 1) with rfl | rfl
  · skip
    refine ex_aload_n ok_L_law (mL10 4 rfl) rfl ?_
    refine ex_aload_n ok_L_law (mL10 5 rfl) rfl ?_
    refine ex_iload ok_L_law (mL10 6 rfl) rfl ?_
    refine ex_iconst ok_L_law (mL10 7 rfl) ?_
    refine ex_iadd ok_L_law (mL10 8 rfl) ?_
    refine ex_top (w := nI 1) (by decide) ?_
    refine ex_ialdx ok_L_law (mL10 9 rfl) (Or.inr k2) n2 (pk_in 1 4 (by decide)) (a2 1 (by decide)) ?_
    refine ex_aload_n ok_L_law (mL10 10 rfl) rfl ?_
    refine ex_iload ok_L_law (mL10 11 rfl) rfl ?_
    refine ex_iconst ok_L_law (mL10 12 rfl) ?_
    refine ex_iadd ok_L_law (mL10 13 rfl) ?_
    refine ex_top (w := nI 2) (by decide) ?_
    refine ex_ialdx ok_L_law (mL10 14 rfl) (Or.inr k2) n2 (pk_in 2 4 (by decide)) (a2 2 (by decide)) ?_
    refine ex_aload_n ok_L_law (mL10 15 rfl) rfl ?_
    refine ex_callSHs (As := [_, _, _, _]) ok_L_law (mL10 16 rfl) rfl (l_keeper0 hst hc f (by omega) k1 n1) rfl rfl rfl (by decide) (Nat.le_of_ble_eq_true rfl) ⟨hmc, hms⟩ (fun z h1 hl => ?_)
    obtain ⟨rfl, l1, l2, l3, l4⟩ := hl
    have fm1 : FM h1 (x + 892) := FM_sm (fun q a b => l4 q (Or.inr a) (by omega)) fm
    have m1 := l4 s (Or.inl hs) (by omega)
    have s1 := m1.1.trans k2
    have t1 := m1.2.1.trans n2
    have a1 : ∀ j, j < 4 → gx_A h1 s j = p j := fun j hj => (m1.2.2.2.2.1 j).trans (a2 j hj)
    refine ex_istore ok_L_law (mL10 17 rfl) ?_
    refine ex_aload_n ok_L_law (mL10 18 rfl) rfl ?_
    refine ex_aload_n ok_L_law (mL10 19 rfl) rfl ?_
    refine ex_iload ok_L_law (mL10 20 rfl) rfl ?_
    refine ex_iconst ok_L_law (mL10 21 rfl) ?_
    refine ex_iadd ok_L_law (mL10 22 rfl) ?_
    refine ex_top (w := nI 1) (by decide) ?_
    refine ex_ialdx ok_L_law (mL10 23 rfl) (Or.inr s1) t1 (pk_in 1 4 (by decide)) (a1 1 (by decide)) ?_
    refine ex_aload_n ok_L_law (mL10 24 rfl) rfl ?_
    refine ex_iload ok_L_law (mL10 25 rfl) rfl ?_
    refine ex_iconst ok_L_law (mL10 26 rfl) ?_
    refine ex_iadd ok_L_law (mL10 27 rfl) ?_
    refine ex_top (w := nI 2) (by decide) ?_
    refine ex_ialdx ok_L_law (mL10 28 rfl) (Or.inr s1) t1 (pk_in 2 4 (by decide)) (a1 2 (by decide)) ?_
    refine ex_callVs (As := [_, _]) ok_L_law (mL10 29 rfl) rfl (MMs hm fm1) rfl (fk (x := x + 892) (a := 0) fm1.1 0 rfl) rfl rfl (by decide) (by decide) (Nat.le_of_ble_eq_true rfl) ⟨Nat.zero_le _, Nat.zero_le _⟩ (fun z h2 hl => ?_)
    obtain ⟨u, rfl, u1, u2, u3, u4⟩ := hl
    have m2 := u4.2 s (Or.inl (by omega))
    refine ex_istore ok_L_law (mL10 30 rfl) ?_
    refine ex_aload_n ok_L_law (mL10 31 rfl) rfl ?_
    refine ex_callVr (As := []) ok_L_law (mL10 32 rfl) rfl (m_X12_thrown hst u3 u2) rfl u3 rfl rfl (by decide) (by decide) (Nat.le_of_ble_eq_true rfl) ⟨Nat.zero_le _, Nat.zero_le _⟩ ?_
    refine ex_iload ok_L_law (mL10 33 rfl) rfl ?_
    refine ex_icmp_eq (tgt := 1074) ok_L_law (mL10 34 rfl) rfl (fun _ => ?_) (fun hn => absurd rfl hn)
    refine ex_iload ok_L_law (mL10 37 rfl) rfl ?_
    refine ex_if_ne (tgt := 1091) ok_L_law (mL10 38 rfl) rfl (fun hn => absurd (by decide) hn) (fun _ => ?_)
    refine ex_aload_n ok_L_law (mL10 39 rfl) rfl ?_
    refine ex_iconst ok_L_law (mL10 40 rfl) ?_
    obtain rfl := u1 rfl
    have m3 := u4.2 (x + 952) (Or.inr (by omega))
    refine ex_laldx (v := u.toInt64) ok_L_law (mL10 41 rfl) (m3.1.trans l2) (m3.2.1.trans l3) (pk_in 0 1 (by decide)) ((m3.2.2.2.2.2.1 0).trans (l1 rfl)) ?_
    refine ex_iload ok_L_law (mL10 42 rfl) rfl ?_
    refine ex_i2l ok_L_law (mL10 43 rfl) ?_
    refine ex_lcmp ok_L_law (mL10 44 rfl) ?_
    refine ex_top (w := 0) (lgc _) ?_
    refine ex_if_eq (tgt := 1091) ok_L_law (mL10 45 rfl) rfl (fun _ => ?_) (fun hn => absurd rfl hn)
    refine ex_goto (tgt := 1545) ok_L_law (mL10 48 rfl) rfl ?_
    exact ex_ls (ls' := [(0, .ref s), (4, .int (nI 0))]) ⟨rfl, rfl, trivial⟩ (lw_end (m2.1.trans s1) (m2.2.1.trans t1) (hq _))
  · skip
    refine ex_aload_n ok_L_law (mL10 4 rfl) rfl ?_
    refine ex_aload_n ok_L_law (mL10 5 rfl) rfl ?_
    refine ex_iload ok_L_law (mL10 6 rfl) rfl ?_
    refine ex_iconst ok_L_law (mL10 7 rfl) ?_
    refine ex_iadd ok_L_law (mL10 8 rfl) ?_
    refine ex_top (w := nI 1) (by decide) ?_
    refine ex_ialdx ok_L_law (mL10 9 rfl) (Or.inr k2) n2 (pk_in 1 4 (by decide)) (a2 1 (by decide)) ?_
    refine ex_aload_n ok_L_law (mL10 10 rfl) rfl ?_
    refine ex_iload ok_L_law (mL10 11 rfl) rfl ?_
    refine ex_iconst ok_L_law (mL10 12 rfl) ?_
    refine ex_iadd ok_L_law (mL10 13 rfl) ?_
    refine ex_top (w := nI 2) (by decide) ?_
    refine ex_ialdx ok_L_law (mL10 14 rfl) (Or.inr k2) n2 (pk_in 2 4 (by decide)) (a2 2 (by decide)) ?_
    refine ex_aload_n ok_L_law (mL10 15 rfl) rfl ?_
    refine ex_callSHs (As := [_, _, _, _]) ok_L_law (mL10 16 rfl) rfl (l_keeper1 hst hc f (by omega) k1 n1) rfl rfl rfl (by decide) (Nat.le_of_ble_eq_true rfl) ⟨hmc, hms⟩ (fun z h1 hl => ?_)
    obtain ⟨rfl, l1, l2, l3, l4⟩ := hl
    have fm1 : FM h1 (x + 892) := FM_sm (fun q a b => l4 q (Or.inr a) (by omega)) fm
    have m1 := l4 s (Or.inl hs) (by omega)
    have s1 := m1.1.trans k2
    have t1 := m1.2.1.trans n2
    have a1 : ∀ j, j < 4 → gx_A h1 s j = p j := fun j hj => (m1.2.2.2.2.1 j).trans (a2 j hj)
    refine ex_istore ok_L_law (mL10 17 rfl) ?_
    refine ex_aload_n ok_L_law (mL10 18 rfl) rfl ?_
    refine ex_aload_n ok_L_law (mL10 19 rfl) rfl ?_
    refine ex_iload ok_L_law (mL10 20 rfl) rfl ?_
    refine ex_iconst ok_L_law (mL10 21 rfl) ?_
    refine ex_iadd ok_L_law (mL10 22 rfl) ?_
    refine ex_top (w := nI 1) (by decide) ?_
    refine ex_ialdx ok_L_law (mL10 23 rfl) (Or.inr s1) t1 (pk_in 1 4 (by decide)) (a1 1 (by decide)) ?_
    refine ex_aload_n ok_L_law (mL10 24 rfl) rfl ?_
    refine ex_iload ok_L_law (mL10 25 rfl) rfl ?_
    refine ex_iconst ok_L_law (mL10 26 rfl) ?_
    refine ex_iadd ok_L_law (mL10 27 rfl) ?_
    refine ex_top (w := nI 2) (by decide) ?_
    refine ex_ialdx ok_L_law (mL10 28 rfl) (Or.inr s1) t1 (pk_in 2 4 (by decide)) (a1 2 (by decide)) ?_
    refine ex_callVs (As := [_, _]) ok_L_law (mL10 29 rfl) rfl (MMs hm fm1) rfl (fk (x := x + 892) (a := 0) fm1.1 0 rfl) rfl rfl (by decide) (by decide) (Nat.le_of_ble_eq_true rfl) ⟨Nat.zero_le _, Nat.zero_le _⟩ (fun z h2 hl => ?_)
    obtain ⟨u, rfl, u1, u2, u3, u4⟩ := hl
    have m2 := u4.2 s (Or.inl (by omega))
    refine ex_istore ok_L_law (mL10 30 rfl) ?_
    refine ex_aload_n ok_L_law (mL10 31 rfl) rfl ?_
    refine ex_callVr (As := []) ok_L_law (mL10 32 rfl) rfl (m_X12_thrown hst u3 u2) rfl u3 rfl rfl (by decide) (by decide) (Nat.le_of_ble_eq_true rfl) ⟨Nat.zero_le _, Nat.zero_le _⟩ ?_
    refine ex_iload ok_L_law (mL10 33 rfl) rfl ?_
    refine ex_icmp_eq (tgt := 1074) ok_L_law (mL10 34 rfl) rfl (fun _ => ?_) (fun hn => absurd rfl hn)
    refine ex_iload ok_L_law (mL10 37 rfl) rfl ?_
    refine ex_if_ne (tgt := 1091) ok_L_law (mL10 38 rfl) rfl (fun _ => ?_) (fun hn => absurd hn (by decide))
    refine ex_goto (tgt := 1545) ok_L_law (mL10 48 rfl) rfl ?_
    exact ex_ls (ls' := [(0, .ref s), (4, .int (nI 0))]) ⟨rfl, rfl, trivial⟩ (lw_end (m2.1.trans s1) (m2.2.1.trans t1) (hq _))
theorem w_entry {G : GE} (hst : (ge_l G).stackTraces = false) {x s mc ms : Nat} {h : GT} {Q : RT → GT → Prop} {p : Nat → Int32} (w : LW h x s p) (hmc : 4 ≤ mc) (hms : 24 ≤ ms) (hq : ∀ h', Q (.inl (some (.int (nI 1)))) h') : ex_W G 10 mc ms M_L_law 1094 [(0, .ref s), (1, .ref x), (2, .ref (x + 892)), (3, .ref (x + 952)), (4, .int (nI 0))] [] h Q := by
  obtain ⟨f, fm, k1, n1, hs, k2, n2, a2⟩ := w
  by_cases e3 : p 3 = 0
  · skip
    obtain ⟨k, v, hk, hc, hm⟩ := b_entry (x := x) (y := x + 892) hst (p 1) (p 2) (nI 0) (Or.inl rfl)
    subst hk
    refine ex_aload_n ok_L_law (mL10 49 rfl) rfl ?_
    refine ex_aload_n ok_L_law (mL10 50 rfl) rfl ?_
    refine ex_iload ok_L_law (mL10 51 rfl) rfl ?_
    refine ex_iconst ok_L_law (mL10 52 rfl) ?_
    refine ex_iadd ok_L_law (mL10 53 rfl) ?_
    refine ex_top (w := nI 1) (by decide) ?_
    refine ex_ialdx ok_L_law (mL10 54 rfl) (Or.inr k2) n2 (pk_in 1 4 (by decide)) (a2 1 (by decide)) ?_
    refine ex_aload_n ok_L_law (mL10 55 rfl) rfl ?_
    refine ex_iload ok_L_law (mL10 56 rfl) rfl ?_
    refine ex_iconst ok_L_law (mL10 57 rfl) ?_
    refine ex_iadd ok_L_law (mL10 58 rfl) ?_
    refine ex_top (w := nI 2) (by decide) ?_
    refine ex_ialdx ok_L_law (mL10 59 rfl) (Or.inr k2) n2 (pk_in 2 4 (by decide)) (a2 2 (by decide)) ?_
    refine ex_aload_n ok_L_law (mL11 0 rfl) rfl ?_
    refine ex_iload ok_L_law (mL11 1 rfl) rfl ?_
    refine ex_iconst ok_L_law (mL11 2 rfl) ?_
    refine ex_iadd ok_L_law (mL11 3 rfl) ?_
    refine ex_top (w := nI 3) (by decide) ?_
    refine ex_ialdx ok_L_law (mL11 4 rfl) (Or.inr k2) n2 (pk_in 3 4 (by decide)) (a2 3 (by decide)) ?_
    refine ex_if_eq (tgt := 1120) ok_L_law (mL11 5 rfl) rfl (fun _ => ?_) (fun hn => absurd e3 hn)
    refine ex_iconst ok_L_law (mL11 8 rfl) ?_
    refine ex_aload_n ok_L_law (mL11 9 rfl) rfl ?_
    refine ex_callSHs (As := [_, _, _, _, _]) ok_L_law (mL11 10 rfl) rfl (l_entry1 hst hc f (by omega) k1 n1) rfl rfl rfl (by decide) (Nat.le_of_ble_eq_true rfl) ⟨hmc, hms⟩ (fun z h1 hl => ?_)
    obtain ⟨rfl, l1, l2, l3, l4⟩ := hl
    have fm1 : FM h1 (x + 892) := FM_sm (fun q a b => l4 q (Or.inr a) (by omega)) fm
    have m1 := l4 s (Or.inl hs) (by omega)
    have s1 := m1.1.trans k2
    have t1 := m1.2.1.trans n2
    have a1 : ∀ j, j < 4 → gx_A h1 s j = p j := fun j hj => (m1.2.2.2.2.1 j).trans (a2 j hj)
    refine ex_istore ok_L_law (mL11 11 rfl) ?_
    refine ex_aload_n ok_L_law (mL11 12 rfl) rfl ?_
    refine ex_aload_n ok_L_law (mL11 13 rfl) rfl ?_
    refine ex_iload ok_L_law (mL11 14 rfl) rfl ?_
    refine ex_iconst ok_L_law (mL11 15 rfl) ?_
    refine ex_iadd ok_L_law (mL11 16 rfl) ?_
    refine ex_top (w := nI 1) (by decide) ?_
    refine ex_ialdx ok_L_law (mL11 17 rfl) (Or.inr s1) t1 (pk_in 1 4 (by decide)) (a1 1 (by decide)) ?_
    refine ex_aload_n ok_L_law (mL11 18 rfl) rfl ?_
    refine ex_iload ok_L_law (mL11 19 rfl) rfl ?_
    refine ex_iconst ok_L_law (mL11 20 rfl) ?_
    refine ex_iadd ok_L_law (mL11 21 rfl) ?_
    refine ex_top (w := nI 2) (by decide) ?_
    refine ex_ialdx ok_L_law (mL11 22 rfl) (Or.inr s1) t1 (pk_in 2 4 (by decide)) (a1 2 (by decide)) ?_
    refine ex_aload_n ok_L_law (mL11 23 rfl) rfl ?_
    refine ex_iload ok_L_law (mL11 24 rfl) rfl ?_
    refine ex_iconst ok_L_law (mL11 25 rfl) ?_
    refine ex_iadd ok_L_law (mL11 26 rfl) ?_
    refine ex_top (w := nI 3) (by decide) ?_
    refine ex_ialdx ok_L_law (mL11 27 rfl) (Or.inr s1) t1 (pk_in 3 4 (by decide)) (a1 3 (by decide)) ?_
    refine ex_if_eq (tgt := 1153) ok_L_law (mL11 28 rfl) rfl (fun _ => ?_) (fun hn => absurd e3 hn)
    refine ex_iconst ok_L_law (mL11 31 rfl) ?_
    refine ex_callVs (As := [_, _, _]) ok_L_law (mL11 32 rfl) rfl (MMs hm fm1) rfl (fk (x := x + 892) (a := 0) fm1.1 0 rfl) rfl rfl (by decide) (by decide) (Nat.le_of_ble_eq_true rfl) ⟨Nat.zero_le _, Nat.zero_le _⟩ (fun z h2 hl => ?_)
    obtain ⟨u, rfl, u1, u2, u3, u4⟩ := hl
    have m2 := u4.2 s (Or.inl (by omega))
    refine ex_istore ok_L_law (mL11 33 rfl) ?_
    refine ex_aload_n ok_L_law (mL11 34 rfl) rfl ?_
    refine ex_callVr (As := []) ok_L_law (mL11 35 rfl) rfl (m_X12_thrown hst u3 u2) rfl u3 rfl rfl (by decide) (by decide) (Nat.le_of_ble_eq_true rfl) ⟨Nat.zero_le _, Nat.zero_le _⟩ ?_
    refine ex_iload ok_L_law (mL11 36 rfl) rfl ?_
    refine ex_icmp_eq (tgt := 1170) ok_L_law (mL11 37 rfl) rfl (fun _ => ?_) (fun hn => absurd rfl hn)
    refine ex_iload ok_L_law (mL11 40 rfl) rfl ?_
    refine ex_if_ne (tgt := 1187) ok_L_law (mL11 41 rfl) rfl (fun _ => ?_) (fun hn => absurd hn (by decide))
    refine ex_goto (tgt := 1545) ok_L_law (mL11 51 rfl) rfl ?_
    exact ex_ls (ls' := [(0, .ref s), (4, .int (nI 0))]) ⟨rfl, rfl, trivial⟩ (lw_end (m2.1.trans s1) (m2.2.1.trans t1) (hq _))
  · skip
    obtain ⟨k, v, hk, hc, hm⟩ := b_entry (x := x) (y := x + 892) hst (p 1) (p 2) (nI 1) (Or.inr rfl)
    subst hk
    refine ex_aload_n ok_L_law (mL10 49 rfl) rfl ?_
    refine ex_aload_n ok_L_law (mL10 50 rfl) rfl ?_
    refine ex_iload ok_L_law (mL10 51 rfl) rfl ?_
    refine ex_iconst ok_L_law (mL10 52 rfl) ?_
    refine ex_iadd ok_L_law (mL10 53 rfl) ?_
    refine ex_top (w := nI 1) (by decide) ?_
    refine ex_ialdx ok_L_law (mL10 54 rfl) (Or.inr k2) n2 (pk_in 1 4 (by decide)) (a2 1 (by decide)) ?_
    refine ex_aload_n ok_L_law (mL10 55 rfl) rfl ?_
    refine ex_iload ok_L_law (mL10 56 rfl) rfl ?_
    refine ex_iconst ok_L_law (mL10 57 rfl) ?_
    refine ex_iadd ok_L_law (mL10 58 rfl) ?_
    refine ex_top (w := nI 2) (by decide) ?_
    refine ex_ialdx ok_L_law (mL10 59 rfl) (Or.inr k2) n2 (pk_in 2 4 (by decide)) (a2 2 (by decide)) ?_
    refine ex_aload_n ok_L_law (mL11 0 rfl) rfl ?_
    refine ex_iload ok_L_law (mL11 1 rfl) rfl ?_
    refine ex_iconst ok_L_law (mL11 2 rfl) ?_
    refine ex_iadd ok_L_law (mL11 3 rfl) ?_
    refine ex_top (w := nI 3) (by decide) ?_
    refine ex_ialdx ok_L_law (mL11 4 rfl) (Or.inr k2) n2 (pk_in 3 4 (by decide)) (a2 3 (by decide)) ?_
    refine ex_if_eq (tgt := 1120) ok_L_law (mL11 5 rfl) rfl (fun hn => absurd hn e3) (fun _ => ?_)
    refine ex_iconst ok_L_law (mL11 6 rfl) ?_
    refine ex_goto (tgt := 1121) ok_L_law (mL11 7 rfl) rfl ?_
    refine ex_aload_n ok_L_law (mL11 9 rfl) rfl ?_
    refine ex_callSHs (As := [_, _, _, _, _]) ok_L_law (mL11 10 rfl) rfl (l_entry1 hst hc f (by omega) k1 n1) rfl rfl rfl (by decide) (Nat.le_of_ble_eq_true rfl) ⟨hmc, hms⟩ (fun z h1 hl => ?_)
    obtain ⟨rfl, l1, l2, l3, l4⟩ := hl
    have fm1 : FM h1 (x + 892) := FM_sm (fun q a b => l4 q (Or.inr a) (by omega)) fm
    have m1 := l4 s (Or.inl hs) (by omega)
    have s1 := m1.1.trans k2
    have t1 := m1.2.1.trans n2
    have a1 : ∀ j, j < 4 → gx_A h1 s j = p j := fun j hj => (m1.2.2.2.2.1 j).trans (a2 j hj)
    refine ex_istore ok_L_law (mL11 11 rfl) ?_
    refine ex_aload_n ok_L_law (mL11 12 rfl) rfl ?_
    refine ex_aload_n ok_L_law (mL11 13 rfl) rfl ?_
    refine ex_iload ok_L_law (mL11 14 rfl) rfl ?_
    refine ex_iconst ok_L_law (mL11 15 rfl) ?_
    refine ex_iadd ok_L_law (mL11 16 rfl) ?_
    refine ex_top (w := nI 1) (by decide) ?_
    refine ex_ialdx ok_L_law (mL11 17 rfl) (Or.inr s1) t1 (pk_in 1 4 (by decide)) (a1 1 (by decide)) ?_
    refine ex_aload_n ok_L_law (mL11 18 rfl) rfl ?_
    refine ex_iload ok_L_law (mL11 19 rfl) rfl ?_
    refine ex_iconst ok_L_law (mL11 20 rfl) ?_
    refine ex_iadd ok_L_law (mL11 21 rfl) ?_
    refine ex_top (w := nI 2) (by decide) ?_
    refine ex_ialdx ok_L_law (mL11 22 rfl) (Or.inr s1) t1 (pk_in 2 4 (by decide)) (a1 2 (by decide)) ?_
    refine ex_aload_n ok_L_law (mL11 23 rfl) rfl ?_
    refine ex_iload ok_L_law (mL11 24 rfl) rfl ?_
    refine ex_iconst ok_L_law (mL11 25 rfl) ?_
    refine ex_iadd ok_L_law (mL11 26 rfl) ?_
    refine ex_top (w := nI 3) (by decide) ?_
    refine ex_ialdx ok_L_law (mL11 27 rfl) (Or.inr s1) t1 (pk_in 3 4 (by decide)) (a1 3 (by decide)) ?_
    refine ex_if_eq (tgt := 1153) ok_L_law (mL11 28 rfl) rfl (fun hn => absurd hn e3) (fun _ => ?_)
    refine ex_iconst ok_L_law (mL11 29 rfl) ?_
    refine ex_goto (tgt := 1154) ok_L_law (mL11 30 rfl) rfl ?_
    refine ex_callVs (As := [_, _, _]) ok_L_law (mL11 32 rfl) rfl (MMs hm fm1) rfl (fk (x := x + 892) (a := 0) fm1.1 0 rfl) rfl rfl (by decide) (by decide) (Nat.le_of_ble_eq_true rfl) ⟨Nat.zero_le _, Nat.zero_le _⟩ (fun z h2 hl => ?_)
    obtain ⟨u, rfl, u1, u2, u3, u4⟩ := hl
    have m2 := u4.2 s (Or.inl (by omega))
    refine ex_istore ok_L_law (mL11 33 rfl) ?_
    refine ex_aload_n ok_L_law (mL11 34 rfl) rfl ?_
    refine ex_callVr (As := []) ok_L_law (mL11 35 rfl) rfl (m_X12_thrown hst u3 u2) rfl u3 rfl rfl (by decide) (by decide) (Nat.le_of_ble_eq_true rfl) ⟨Nat.zero_le _, Nat.zero_le _⟩ ?_
    refine ex_iload ok_L_law (mL11 36 rfl) rfl ?_
    refine ex_icmp_eq (tgt := 1170) ok_L_law (mL11 37 rfl) rfl (fun _ => ?_) (fun hn => absurd rfl hn)
    refine ex_iload ok_L_law (mL11 40 rfl) rfl ?_
    refine ex_if_ne (tgt := 1187) ok_L_law (mL11 41 rfl) rfl (fun _ => ?_) (fun hn => absurd hn (by decide))
    refine ex_goto (tgt := 1545) ok_L_law (mL11 51 rfl) rfl ?_
    exact ex_ls (ls' := [(0, .ref s), (4, .int (nI 0))]) ⟨rfl, rfl, trivial⟩ (lw_end (m2.1.trans s1) (m2.2.1.trans t1) (hq _))
theorem w_voter {G : GE} (hst : (ge_l G).stackTraces = false) {x s mc ms : Nat} {h : GT} {Q : RT → GT → Prop} {p : Nat → Int32} (w : LW h x s p) (hmc : 4 ≤ mc) (hms : 24 ≤ ms) (hq : ∀ h', Q (.inl (some (.int (nI 1)))) h') : ex_W G 10 mc ms M_L_law 1190 [(0, .ref s), (1, .ref x), (2, .ref (x + 892)), (3, .ref (x + 952)), (4, .int (nI 0))] [] h Q := by
  obtain ⟨f, fm, k1, n1, hs, k2, n2, a2⟩ := w
  obtain ⟨k, v, hk, hc, hm⟩ := b_voter (x := x) (y := x + 892) hst (p 1) (p 2)
  rcases (by omega : k = 0 ∨ k = 1) with rfl | rfl
  · skip
    refine ex_aload_n ok_L_law (mL11 52 rfl) rfl ?_
    refine ex_aload_n ok_L_law (mL11 53 rfl) rfl ?_
    refine ex_iload ok_L_law (mL11 54 rfl) rfl ?_
    refine ex_iconst ok_L_law (mL11 55 rfl) ?_
    refine ex_iadd ok_L_law (mL11 56 rfl) ?_
    refine ex_top (w := nI 1) (by decide) ?_
    refine ex_ialdx ok_L_law (mL11 57 rfl) (Or.inr k2) n2 (pk_in 1 4 (by decide)) (a2 1 (by decide)) ?_
    refine ex_aload_n ok_L_law (mL11 58 rfl) rfl ?_
    refine ex_iload ok_L_law (mL11 59 rfl) rfl ?_
    refine ex_iconst ok_L_law (mL12 0 rfl) ?_
    refine ex_iadd ok_L_law (mL12 1 rfl) ?_
    refine ex_top (w := nI 2) (by decide) ?_
    refine ex_ialdx ok_L_law (mL12 2 rfl) (Or.inr k2) n2 (pk_in 2 4 (by decide)) (a2 2 (by decide)) ?_
    refine ex_aload_n ok_L_law (mL12 3 rfl) rfl ?_
    refine ex_callSHs (As := [_, _, _, _]) ok_L_law (mL12 4 rfl) rfl (l_voter0 hst hc f (by omega) k1 n1) rfl rfl rfl (by decide) (Nat.le_of_ble_eq_true rfl) ⟨hmc, hms⟩ (fun z h1 hl => ?_)
    obtain ⟨rfl, l1, l2, l3, l4⟩ := hl
    have fm1 : FM h1 (x + 892) := FM_sm (fun q a b => l4 q (Or.inr a) (by omega)) fm
    have m1 := l4 s (Or.inl hs) (by omega)
    have s1 := m1.1.trans k2
    have t1 := m1.2.1.trans n2
    have a1 : ∀ j, j < 4 → gx_A h1 s j = p j := fun j hj => (m1.2.2.2.2.1 j).trans (a2 j hj)
    refine ex_istore ok_L_law (mL12 5 rfl) ?_
    refine ex_aload_n ok_L_law (mL12 6 rfl) rfl ?_
    refine ex_aload_n ok_L_law (mL12 7 rfl) rfl ?_
    refine ex_iload ok_L_law (mL12 8 rfl) rfl ?_
    refine ex_iconst ok_L_law (mL12 9 rfl) ?_
    refine ex_iadd ok_L_law (mL12 10 rfl) ?_
    refine ex_top (w := nI 1) (by decide) ?_
    refine ex_ialdx ok_L_law (mL12 11 rfl) (Or.inr s1) t1 (pk_in 1 4 (by decide)) (a1 1 (by decide)) ?_
    refine ex_aload_n ok_L_law (mL12 12 rfl) rfl ?_
    refine ex_iload ok_L_law (mL12 13 rfl) rfl ?_
    refine ex_iconst ok_L_law (mL12 14 rfl) ?_
    refine ex_iadd ok_L_law (mL12 15 rfl) ?_
    refine ex_top (w := nI 2) (by decide) ?_
    refine ex_ialdx ok_L_law (mL12 16 rfl) (Or.inr s1) t1 (pk_in 2 4 (by decide)) (a1 2 (by decide)) ?_
    refine ex_callVs (As := [_, _]) ok_L_law (mL12 17 rfl) rfl (MMs hm fm1) rfl (fk (x := x + 892) (a := 0) fm1.1 0 rfl) rfl rfl (by decide) (by decide) (Nat.le_of_ble_eq_true rfl) ⟨Nat.zero_le _, Nat.zero_le _⟩ (fun z h2 hl => ?_)
    obtain ⟨u, rfl, u1, u2, u3, u4⟩ := hl
    have m2 := u4.2 s (Or.inl (by omega))
    refine ex_istore ok_L_law (mL12 18 rfl) ?_
    refine ex_aload_n ok_L_law (mL12 19 rfl) rfl ?_
    refine ex_callVr (As := []) ok_L_law (mL12 20 rfl) rfl (m_X12_thrown hst u3 u2) rfl u3 rfl rfl (by decide) (by decide) (Nat.le_of_ble_eq_true rfl) ⟨Nat.zero_le _, Nat.zero_le _⟩ ?_
    refine ex_iload ok_L_law (mL12 21 rfl) rfl ?_
    refine ex_icmp_eq (tgt := 1238) ok_L_law (mL12 22 rfl) rfl (fun _ => ?_) (fun hn => absurd rfl hn)
    refine ex_iload ok_L_law (mL12 25 rfl) rfl ?_
    refine ex_if_ne (tgt := 1255) ok_L_law (mL12 26 rfl) rfl (fun hn => absurd (by decide) hn) (fun _ => ?_)
    refine ex_aload_n ok_L_law (mL12 27 rfl) rfl ?_
    refine ex_iconst ok_L_law (mL12 28 rfl) ?_
    obtain rfl := u1 rfl
    have m3 := u4.2 (x + 952) (Or.inr (by omega))
    refine ex_laldx (v := u.toInt64) ok_L_law (mL12 29 rfl) (m3.1.trans l2) (m3.2.1.trans l3) (pk_in 0 1 (by decide)) ((m3.2.2.2.2.2.1 0).trans (l1 rfl)) ?_
    refine ex_iload ok_L_law (mL12 30 rfl) rfl ?_
    refine ex_i2l ok_L_law (mL12 31 rfl) ?_
    refine ex_lcmp ok_L_law (mL12 32 rfl) ?_
    refine ex_top (w := 0) (lgc _) ?_
    refine ex_if_eq (tgt := 1255) ok_L_law (mL12 33 rfl) rfl (fun _ => ?_) (fun hn => absurd rfl hn)
    refine ex_goto (tgt := 1545) ok_L_law (mL12 36 rfl) rfl ?_
    exact ex_ls (ls' := [(0, .ref s), (4, .int (nI 0))]) ⟨rfl, rfl, trivial⟩ (lw_end (m2.1.trans s1) (m2.2.1.trans t1) (hq _))
  · skip
    refine ex_aload_n ok_L_law (mL11 52 rfl) rfl ?_
    refine ex_aload_n ok_L_law (mL11 53 rfl) rfl ?_
    refine ex_iload ok_L_law (mL11 54 rfl) rfl ?_
    refine ex_iconst ok_L_law (mL11 55 rfl) ?_
    refine ex_iadd ok_L_law (mL11 56 rfl) ?_
    refine ex_top (w := nI 1) (by decide) ?_
    refine ex_ialdx ok_L_law (mL11 57 rfl) (Or.inr k2) n2 (pk_in 1 4 (by decide)) (a2 1 (by decide)) ?_
    refine ex_aload_n ok_L_law (mL11 58 rfl) rfl ?_
    refine ex_iload ok_L_law (mL11 59 rfl) rfl ?_
    refine ex_iconst ok_L_law (mL12 0 rfl) ?_
    refine ex_iadd ok_L_law (mL12 1 rfl) ?_
    refine ex_top (w := nI 2) (by decide) ?_
    refine ex_ialdx ok_L_law (mL12 2 rfl) (Or.inr k2) n2 (pk_in 2 4 (by decide)) (a2 2 (by decide)) ?_
    refine ex_aload_n ok_L_law (mL12 3 rfl) rfl ?_
    refine ex_callSHs (As := [_, _, _, _]) ok_L_law (mL12 4 rfl) rfl (l_voter1 hst hc f (by omega) k1 n1) rfl rfl rfl (by decide) (Nat.le_of_ble_eq_true rfl) ⟨hmc, hms⟩ (fun z h1 hl => ?_)
    obtain ⟨rfl, l1, l2, l3, l4⟩ := hl
    have fm1 : FM h1 (x + 892) := FM_sm (fun q a b => l4 q (Or.inr a) (by omega)) fm
    have m1 := l4 s (Or.inl hs) (by omega)
    have s1 := m1.1.trans k2
    have t1 := m1.2.1.trans n2
    have a1 : ∀ j, j < 4 → gx_A h1 s j = p j := fun j hj => (m1.2.2.2.2.1 j).trans (a2 j hj)
    refine ex_istore ok_L_law (mL12 5 rfl) ?_
    refine ex_aload_n ok_L_law (mL12 6 rfl) rfl ?_
    refine ex_aload_n ok_L_law (mL12 7 rfl) rfl ?_
    refine ex_iload ok_L_law (mL12 8 rfl) rfl ?_
    refine ex_iconst ok_L_law (mL12 9 rfl) ?_
    refine ex_iadd ok_L_law (mL12 10 rfl) ?_
    refine ex_top (w := nI 1) (by decide) ?_
    refine ex_ialdx ok_L_law (mL12 11 rfl) (Or.inr s1) t1 (pk_in 1 4 (by decide)) (a1 1 (by decide)) ?_
    refine ex_aload_n ok_L_law (mL12 12 rfl) rfl ?_
    refine ex_iload ok_L_law (mL12 13 rfl) rfl ?_
    refine ex_iconst ok_L_law (mL12 14 rfl) ?_
    refine ex_iadd ok_L_law (mL12 15 rfl) ?_
    refine ex_top (w := nI 2) (by decide) ?_
    refine ex_ialdx ok_L_law (mL12 16 rfl) (Or.inr s1) t1 (pk_in 2 4 (by decide)) (a1 2 (by decide)) ?_
    refine ex_callVs (As := [_, _]) ok_L_law (mL12 17 rfl) rfl (MMs hm fm1) rfl (fk (x := x + 892) (a := 0) fm1.1 0 rfl) rfl rfl (by decide) (by decide) (Nat.le_of_ble_eq_true rfl) ⟨Nat.zero_le _, Nat.zero_le _⟩ (fun z h2 hl => ?_)
    obtain ⟨u, rfl, u1, u2, u3, u4⟩ := hl
    have m2 := u4.2 s (Or.inl (by omega))
    refine ex_istore ok_L_law (mL12 18 rfl) ?_
    refine ex_aload_n ok_L_law (mL12 19 rfl) rfl ?_
    refine ex_callVr (As := []) ok_L_law (mL12 20 rfl) rfl (m_X12_thrown hst u3 u2) rfl u3 rfl rfl (by decide) (by decide) (Nat.le_of_ble_eq_true rfl) ⟨Nat.zero_le _, Nat.zero_le _⟩ ?_
    refine ex_iload ok_L_law (mL12 21 rfl) rfl ?_
    refine ex_icmp_eq (tgt := 1238) ok_L_law (mL12 22 rfl) rfl (fun _ => ?_) (fun hn => absurd rfl hn)
    refine ex_iload ok_L_law (mL12 25 rfl) rfl ?_
    refine ex_if_ne (tgt := 1255) ok_L_law (mL12 26 rfl) rfl (fun _ => ?_) (fun hn => absurd hn (by decide))
    refine ex_goto (tgt := 1545) ok_L_law (mL12 36 rfl) rfl ?_
    exact ex_ls (ls' := [(0, .ref s), (4, .int (nI 0))]) ⟨rfl, rfl, trivial⟩ (lw_end (m2.1.trans s1) (m2.2.1.trans t1) (hq _))
theorem w_vote {G : GE} (hst : (ge_l G).stackTraces = false) {x s mc ms : Nat} {h : GT} {Q : RT → GT → Prop} {p : Nat → Int32} (w : LW h x s p) (hmc : 4 ≤ mc) (hms : 24 ≤ ms) (hq : ∀ h', Q (.inl (some (.int (nI 1)))) h') : ex_W G 10 mc ms M_L_law 1258 [(0, .ref s), (1, .ref x), (2, .ref (x + 892)), (3, .ref (x + 952)), (4, .int (nI 0))] [] h Q := by
  obtain ⟨f, fm, k1, n1, hs, k2, n2, a2⟩ := w
  by_cases e3 : p 3 = 0
  · skip
    obtain ⟨k, v, hk, hc, hm⟩ := b_vote (x := x) (y := x + 892) hst (p 1) (p 2) (nI 0) (Or.inl rfl)
    rcases (by omega : k = 0 ∨ k = 1) with rfl | rfl
    · skip
      refine ex_aload_n ok_L_law (mL12 37 rfl) rfl ?_
      refine ex_aload_n ok_L_law (mL12 38 rfl) rfl ?_
      refine ex_iload ok_L_law (mL12 39 rfl) rfl ?_
      refine ex_iconst ok_L_law (mL12 40 rfl) ?_
      refine ex_iadd ok_L_law (mL12 41 rfl) ?_
      refine ex_top (w := nI 1) (by decide) ?_
      refine ex_ialdx ok_L_law (mL12 42 rfl) (Or.inr k2) n2 (pk_in 1 4 (by decide)) (a2 1 (by decide)) ?_
      refine ex_aload_n ok_L_law (mL12 43 rfl) rfl ?_
      refine ex_iload ok_L_law (mL12 44 rfl) rfl ?_
      refine ex_iconst ok_L_law (mL12 45 rfl) ?_
      refine ex_iadd ok_L_law (mL12 46 rfl) ?_
      refine ex_top (w := nI 2) (by decide) ?_
      refine ex_ialdx ok_L_law (mL12 47 rfl) (Or.inr k2) n2 (pk_in 2 4 (by decide)) (a2 2 (by decide)) ?_
      refine ex_aload_n ok_L_law (mL12 48 rfl) rfl ?_
      refine ex_iload ok_L_law (mL12 49 rfl) rfl ?_
      refine ex_iconst ok_L_law (mL12 50 rfl) ?_
      refine ex_iadd ok_L_law (mL12 51 rfl) ?_
      refine ex_top (w := nI 3) (by decide) ?_
      refine ex_ialdx ok_L_law (mL12 52 rfl) (Or.inr k2) n2 (pk_in 3 4 (by decide)) (a2 3 (by decide)) ?_
      refine ex_if_eq (tgt := 1284) ok_L_law (mL12 53 rfl) rfl (fun _ => ?_) (fun hn => absurd e3 hn)
      refine ex_iconst ok_L_law (mL12 56 rfl) ?_
      refine ex_aload_n ok_L_law (mL12 57 rfl) rfl ?_
      refine ex_callSHs (As := [_, _, _, _, _]) ok_L_law (mL12 58 rfl) rfl (l_vote0 hst hc f (by omega) k1 n1) rfl rfl rfl (by decide) (Nat.le_of_ble_eq_true rfl) ⟨hmc, hms⟩ (fun z h1 hl => ?_)
      obtain ⟨rfl, l1, l2, l3, l4⟩ := hl
      have fm1 : FM h1 (x + 892) := FM_sm (fun q a b => l4 q (Or.inr a) (by omega)) fm
      have m1 := l4 s (Or.inl hs) (by omega)
      have s1 := m1.1.trans k2
      have t1 := m1.2.1.trans n2
      have a1 : ∀ j, j < 4 → gx_A h1 s j = p j := fun j hj => (m1.2.2.2.2.1 j).trans (a2 j hj)
      refine ex_istore ok_L_law (mL12 59 rfl) ?_
      refine ex_aload_n ok_L_law (mL13 0 rfl) rfl ?_
      refine ex_aload_n ok_L_law (mL13 1 rfl) rfl ?_
      refine ex_iload ok_L_law (mL13 2 rfl) rfl ?_
      refine ex_iconst ok_L_law (mL13 3 rfl) ?_
      refine ex_iadd ok_L_law (mL13 4 rfl) ?_
      refine ex_top (w := nI 1) (by decide) ?_
      refine ex_ialdx ok_L_law (mL13 5 rfl) (Or.inr s1) t1 (pk_in 1 4 (by decide)) (a1 1 (by decide)) ?_
      refine ex_aload_n ok_L_law (mL13 6 rfl) rfl ?_
      refine ex_iload ok_L_law (mL13 7 rfl) rfl ?_
      refine ex_iconst ok_L_law (mL13 8 rfl) ?_
      refine ex_iadd ok_L_law (mL13 9 rfl) ?_
      refine ex_top (w := nI 2) (by decide) ?_
      refine ex_ialdx ok_L_law (mL13 10 rfl) (Or.inr s1) t1 (pk_in 2 4 (by decide)) (a1 2 (by decide)) ?_
      refine ex_aload_n ok_L_law (mL13 11 rfl) rfl ?_
      refine ex_iload ok_L_law (mL13 12 rfl) rfl ?_
      refine ex_iconst ok_L_law (mL13 13 rfl) ?_
      refine ex_iadd ok_L_law (mL13 14 rfl) ?_
      refine ex_top (w := nI 3) (by decide) ?_
      refine ex_ialdx ok_L_law (mL13 15 rfl) (Or.inr s1) t1 (pk_in 3 4 (by decide)) (a1 3 (by decide)) ?_
      refine ex_if_eq (tgt := 1317) ok_L_law (mL13 16 rfl) rfl (fun _ => ?_) (fun hn => absurd e3 hn)
      refine ex_iconst ok_L_law (mL13 19 rfl) ?_
      refine ex_callVs (As := [_, _, _]) ok_L_law (mL13 20 rfl) rfl (MMs hm fm1) rfl (fk (x := x + 892) (a := 0) fm1.1 0 rfl) rfl rfl (by decide) (by decide) (Nat.le_of_ble_eq_true rfl) ⟨Nat.zero_le _, Nat.zero_le _⟩ (fun z h2 hl => ?_)
      obtain ⟨u, rfl, u1, u2, u3, u4⟩ := hl
      have m2 := u4.2 s (Or.inl (by omega))
      refine ex_istore ok_L_law (mL13 21 rfl) ?_
      refine ex_aload_n ok_L_law (mL13 22 rfl) rfl ?_
      refine ex_callVr (As := []) ok_L_law (mL13 23 rfl) rfl (m_X12_thrown hst u3 u2) rfl u3 rfl rfl (by decide) (by decide) (Nat.le_of_ble_eq_true rfl) ⟨Nat.zero_le _, Nat.zero_le _⟩ ?_
      refine ex_iload ok_L_law (mL13 24 rfl) rfl ?_
      refine ex_icmp_eq (tgt := 1334) ok_L_law (mL13 25 rfl) rfl (fun _ => ?_) (fun hn => absurd rfl hn)
      refine ex_iload ok_L_law (mL13 28 rfl) rfl ?_
      refine ex_if_ne (tgt := 1351) ok_L_law (mL13 29 rfl) rfl (fun hn => absurd (by decide) hn) (fun _ => ?_)
      refine ex_aload_n ok_L_law (mL13 30 rfl) rfl ?_
      refine ex_iconst ok_L_law (mL13 31 rfl) ?_
      obtain rfl := u1 rfl
      have m3 := u4.2 (x + 952) (Or.inr (by omega))
      refine ex_laldx (v := u.toInt64) ok_L_law (mL13 32 rfl) (m3.1.trans l2) (m3.2.1.trans l3) (pk_in 0 1 (by decide)) ((m3.2.2.2.2.2.1 0).trans (l1 rfl)) ?_
      refine ex_iload ok_L_law (mL13 33 rfl) rfl ?_
      refine ex_i2l ok_L_law (mL13 34 rfl) ?_
      refine ex_lcmp ok_L_law (mL13 35 rfl) ?_
      refine ex_top (w := 0) (lgc _) ?_
      refine ex_if_eq (tgt := 1351) ok_L_law (mL13 36 rfl) rfl (fun _ => ?_) (fun hn => absurd rfl hn)
      refine ex_goto (tgt := 1545) ok_L_law (mL13 39 rfl) rfl ?_
      exact ex_ls (ls' := [(0, .ref s), (4, .int (nI 0))]) ⟨rfl, rfl, trivial⟩ (lw_end (m2.1.trans s1) (m2.2.1.trans t1) (hq _))
    · skip
      refine ex_aload_n ok_L_law (mL12 37 rfl) rfl ?_
      refine ex_aload_n ok_L_law (mL12 38 rfl) rfl ?_
      refine ex_iload ok_L_law (mL12 39 rfl) rfl ?_
      refine ex_iconst ok_L_law (mL12 40 rfl) ?_
      refine ex_iadd ok_L_law (mL12 41 rfl) ?_
      refine ex_top (w := nI 1) (by decide) ?_
      refine ex_ialdx ok_L_law (mL12 42 rfl) (Or.inr k2) n2 (pk_in 1 4 (by decide)) (a2 1 (by decide)) ?_
      refine ex_aload_n ok_L_law (mL12 43 rfl) rfl ?_
      refine ex_iload ok_L_law (mL12 44 rfl) rfl ?_
      refine ex_iconst ok_L_law (mL12 45 rfl) ?_
      refine ex_iadd ok_L_law (mL12 46 rfl) ?_
      refine ex_top (w := nI 2) (by decide) ?_
      refine ex_ialdx ok_L_law (mL12 47 rfl) (Or.inr k2) n2 (pk_in 2 4 (by decide)) (a2 2 (by decide)) ?_
      refine ex_aload_n ok_L_law (mL12 48 rfl) rfl ?_
      refine ex_iload ok_L_law (mL12 49 rfl) rfl ?_
      refine ex_iconst ok_L_law (mL12 50 rfl) ?_
      refine ex_iadd ok_L_law (mL12 51 rfl) ?_
      refine ex_top (w := nI 3) (by decide) ?_
      refine ex_ialdx ok_L_law (mL12 52 rfl) (Or.inr k2) n2 (pk_in 3 4 (by decide)) (a2 3 (by decide)) ?_
      refine ex_if_eq (tgt := 1284) ok_L_law (mL12 53 rfl) rfl (fun _ => ?_) (fun hn => absurd e3 hn)
      refine ex_iconst ok_L_law (mL12 56 rfl) ?_
      refine ex_aload_n ok_L_law (mL12 57 rfl) rfl ?_
      refine ex_callSHs (As := [_, _, _, _, _]) ok_L_law (mL12 58 rfl) rfl (l_vote1 hst hc f (by omega) k1 n1) rfl rfl rfl (by decide) (Nat.le_of_ble_eq_true rfl) ⟨hmc, hms⟩ (fun z h1 hl => ?_)
      obtain ⟨rfl, l1, l2, l3, l4⟩ := hl
      have fm1 : FM h1 (x + 892) := FM_sm (fun q a b => l4 q (Or.inr a) (by omega)) fm
      have m1 := l4 s (Or.inl hs) (by omega)
      have s1 := m1.1.trans k2
      have t1 := m1.2.1.trans n2
      have a1 : ∀ j, j < 4 → gx_A h1 s j = p j := fun j hj => (m1.2.2.2.2.1 j).trans (a2 j hj)
      refine ex_istore ok_L_law (mL12 59 rfl) ?_
      refine ex_aload_n ok_L_law (mL13 0 rfl) rfl ?_
      refine ex_aload_n ok_L_law (mL13 1 rfl) rfl ?_
      refine ex_iload ok_L_law (mL13 2 rfl) rfl ?_
      refine ex_iconst ok_L_law (mL13 3 rfl) ?_
      refine ex_iadd ok_L_law (mL13 4 rfl) ?_
      refine ex_top (w := nI 1) (by decide) ?_
      refine ex_ialdx ok_L_law (mL13 5 rfl) (Or.inr s1) t1 (pk_in 1 4 (by decide)) (a1 1 (by decide)) ?_
      refine ex_aload_n ok_L_law (mL13 6 rfl) rfl ?_
      refine ex_iload ok_L_law (mL13 7 rfl) rfl ?_
      refine ex_iconst ok_L_law (mL13 8 rfl) ?_
      refine ex_iadd ok_L_law (mL13 9 rfl) ?_
      refine ex_top (w := nI 2) (by decide) ?_
      refine ex_ialdx ok_L_law (mL13 10 rfl) (Or.inr s1) t1 (pk_in 2 4 (by decide)) (a1 2 (by decide)) ?_
      refine ex_aload_n ok_L_law (mL13 11 rfl) rfl ?_
      refine ex_iload ok_L_law (mL13 12 rfl) rfl ?_
      refine ex_iconst ok_L_law (mL13 13 rfl) ?_
      refine ex_iadd ok_L_law (mL13 14 rfl) ?_
      refine ex_top (w := nI 3) (by decide) ?_
      refine ex_ialdx ok_L_law (mL13 15 rfl) (Or.inr s1) t1 (pk_in 3 4 (by decide)) (a1 3 (by decide)) ?_
      refine ex_if_eq (tgt := 1317) ok_L_law (mL13 16 rfl) rfl (fun _ => ?_) (fun hn => absurd e3 hn)
      refine ex_iconst ok_L_law (mL13 19 rfl) ?_
      refine ex_callVs (As := [_, _, _]) ok_L_law (mL13 20 rfl) rfl (MMs hm fm1) rfl (fk (x := x + 892) (a := 0) fm1.1 0 rfl) rfl rfl (by decide) (by decide) (Nat.le_of_ble_eq_true rfl) ⟨Nat.zero_le _, Nat.zero_le _⟩ (fun z h2 hl => ?_)
      obtain ⟨u, rfl, u1, u2, u3, u4⟩ := hl
      have m2 := u4.2 s (Or.inl (by omega))
      refine ex_istore ok_L_law (mL13 21 rfl) ?_
      refine ex_aload_n ok_L_law (mL13 22 rfl) rfl ?_
      refine ex_callVr (As := []) ok_L_law (mL13 23 rfl) rfl (m_X12_thrown hst u3 u2) rfl u3 rfl rfl (by decide) (by decide) (Nat.le_of_ble_eq_true rfl) ⟨Nat.zero_le _, Nat.zero_le _⟩ ?_
      refine ex_iload ok_L_law (mL13 24 rfl) rfl ?_
      refine ex_icmp_eq (tgt := 1334) ok_L_law (mL13 25 rfl) rfl (fun _ => ?_) (fun hn => absurd rfl hn)
      refine ex_iload ok_L_law (mL13 28 rfl) rfl ?_
      refine ex_if_ne (tgt := 1351) ok_L_law (mL13 29 rfl) rfl (fun _ => ?_) (fun hn => absurd hn (by decide))
      refine ex_goto (tgt := 1545) ok_L_law (mL13 39 rfl) rfl ?_
      exact ex_ls (ls' := [(0, .ref s), (4, .int (nI 0))]) ⟨rfl, rfl, trivial⟩ (lw_end (m2.1.trans s1) (m2.2.1.trans t1) (hq _))
  · skip
    obtain ⟨k, v, hk, hc, hm⟩ := b_vote (x := x) (y := x + 892) hst (p 1) (p 2) (nI 1) (Or.inr rfl)
    rcases (by omega : k = 0 ∨ k = 1) with rfl | rfl
    · skip
      refine ex_aload_n ok_L_law (mL12 37 rfl) rfl ?_
      refine ex_aload_n ok_L_law (mL12 38 rfl) rfl ?_
      refine ex_iload ok_L_law (mL12 39 rfl) rfl ?_
      refine ex_iconst ok_L_law (mL12 40 rfl) ?_
      refine ex_iadd ok_L_law (mL12 41 rfl) ?_
      refine ex_top (w := nI 1) (by decide) ?_
      refine ex_ialdx ok_L_law (mL12 42 rfl) (Or.inr k2) n2 (pk_in 1 4 (by decide)) (a2 1 (by decide)) ?_
      refine ex_aload_n ok_L_law (mL12 43 rfl) rfl ?_
      refine ex_iload ok_L_law (mL12 44 rfl) rfl ?_
      refine ex_iconst ok_L_law (mL12 45 rfl) ?_
      refine ex_iadd ok_L_law (mL12 46 rfl) ?_
      refine ex_top (w := nI 2) (by decide) ?_
      refine ex_ialdx ok_L_law (mL12 47 rfl) (Or.inr k2) n2 (pk_in 2 4 (by decide)) (a2 2 (by decide)) ?_
      refine ex_aload_n ok_L_law (mL12 48 rfl) rfl ?_
      refine ex_iload ok_L_law (mL12 49 rfl) rfl ?_
      refine ex_iconst ok_L_law (mL12 50 rfl) ?_
      refine ex_iadd ok_L_law (mL12 51 rfl) ?_
      refine ex_top (w := nI 3) (by decide) ?_
      refine ex_ialdx ok_L_law (mL12 52 rfl) (Or.inr k2) n2 (pk_in 3 4 (by decide)) (a2 3 (by decide)) ?_
      refine ex_if_eq (tgt := 1284) ok_L_law (mL12 53 rfl) rfl (fun hn => absurd hn e3) (fun _ => ?_)
      refine ex_iconst ok_L_law (mL12 54 rfl) ?_
      refine ex_goto (tgt := 1285) ok_L_law (mL12 55 rfl) rfl ?_
      refine ex_aload_n ok_L_law (mL12 57 rfl) rfl ?_
      refine ex_callSHs (As := [_, _, _, _, _]) ok_L_law (mL12 58 rfl) rfl (l_vote0 hst hc f (by omega) k1 n1) rfl rfl rfl (by decide) (Nat.le_of_ble_eq_true rfl) ⟨hmc, hms⟩ (fun z h1 hl => ?_)
      obtain ⟨rfl, l1, l2, l3, l4⟩ := hl
      have fm1 : FM h1 (x + 892) := FM_sm (fun q a b => l4 q (Or.inr a) (by omega)) fm
      have m1 := l4 s (Or.inl hs) (by omega)
      have s1 := m1.1.trans k2
      have t1 := m1.2.1.trans n2
      have a1 : ∀ j, j < 4 → gx_A h1 s j = p j := fun j hj => (m1.2.2.2.2.1 j).trans (a2 j hj)
      refine ex_istore ok_L_law (mL12 59 rfl) ?_
      refine ex_aload_n ok_L_law (mL13 0 rfl) rfl ?_
      refine ex_aload_n ok_L_law (mL13 1 rfl) rfl ?_
      refine ex_iload ok_L_law (mL13 2 rfl) rfl ?_
      refine ex_iconst ok_L_law (mL13 3 rfl) ?_
      refine ex_iadd ok_L_law (mL13 4 rfl) ?_
      refine ex_top (w := nI 1) (by decide) ?_
      refine ex_ialdx ok_L_law (mL13 5 rfl) (Or.inr s1) t1 (pk_in 1 4 (by decide)) (a1 1 (by decide)) ?_
      refine ex_aload_n ok_L_law (mL13 6 rfl) rfl ?_
      refine ex_iload ok_L_law (mL13 7 rfl) rfl ?_
      refine ex_iconst ok_L_law (mL13 8 rfl) ?_
      refine ex_iadd ok_L_law (mL13 9 rfl) ?_
      refine ex_top (w := nI 2) (by decide) ?_
      refine ex_ialdx ok_L_law (mL13 10 rfl) (Or.inr s1) t1 (pk_in 2 4 (by decide)) (a1 2 (by decide)) ?_
      refine ex_aload_n ok_L_law (mL13 11 rfl) rfl ?_
      refine ex_iload ok_L_law (mL13 12 rfl) rfl ?_
      refine ex_iconst ok_L_law (mL13 13 rfl) ?_
      refine ex_iadd ok_L_law (mL13 14 rfl) ?_
      refine ex_top (w := nI 3) (by decide) ?_
      refine ex_ialdx ok_L_law (mL13 15 rfl) (Or.inr s1) t1 (pk_in 3 4 (by decide)) (a1 3 (by decide)) ?_
      refine ex_if_eq (tgt := 1317) ok_L_law (mL13 16 rfl) rfl (fun hn => absurd hn e3) (fun _ => ?_)
      refine ex_iconst ok_L_law (mL13 17 rfl) ?_
      refine ex_goto (tgt := 1318) ok_L_law (mL13 18 rfl) rfl ?_
      refine ex_callVs (As := [_, _, _]) ok_L_law (mL13 20 rfl) rfl (MMs hm fm1) rfl (fk (x := x + 892) (a := 0) fm1.1 0 rfl) rfl rfl (by decide) (by decide) (Nat.le_of_ble_eq_true rfl) ⟨Nat.zero_le _, Nat.zero_le _⟩ (fun z h2 hl => ?_)
      obtain ⟨u, rfl, u1, u2, u3, u4⟩ := hl
      have m2 := u4.2 s (Or.inl (by omega))
      refine ex_istore ok_L_law (mL13 21 rfl) ?_
      refine ex_aload_n ok_L_law (mL13 22 rfl) rfl ?_
      refine ex_callVr (As := []) ok_L_law (mL13 23 rfl) rfl (m_X12_thrown hst u3 u2) rfl u3 rfl rfl (by decide) (by decide) (Nat.le_of_ble_eq_true rfl) ⟨Nat.zero_le _, Nat.zero_le _⟩ ?_
      refine ex_iload ok_L_law (mL13 24 rfl) rfl ?_
      refine ex_icmp_eq (tgt := 1334) ok_L_law (mL13 25 rfl) rfl (fun _ => ?_) (fun hn => absurd rfl hn)
      refine ex_iload ok_L_law (mL13 28 rfl) rfl ?_
      refine ex_if_ne (tgt := 1351) ok_L_law (mL13 29 rfl) rfl (fun hn => absurd (by decide) hn) (fun _ => ?_)
      refine ex_aload_n ok_L_law (mL13 30 rfl) rfl ?_
      refine ex_iconst ok_L_law (mL13 31 rfl) ?_
      obtain rfl := u1 rfl
      have m3 := u4.2 (x + 952) (Or.inr (by omega))
      refine ex_laldx (v := u.toInt64) ok_L_law (mL13 32 rfl) (m3.1.trans l2) (m3.2.1.trans l3) (pk_in 0 1 (by decide)) ((m3.2.2.2.2.2.1 0).trans (l1 rfl)) ?_
      refine ex_iload ok_L_law (mL13 33 rfl) rfl ?_
      refine ex_i2l ok_L_law (mL13 34 rfl) ?_
      refine ex_lcmp ok_L_law (mL13 35 rfl) ?_
      refine ex_top (w := 0) (lgc _) ?_
      refine ex_if_eq (tgt := 1351) ok_L_law (mL13 36 rfl) rfl (fun _ => ?_) (fun hn => absurd rfl hn)
      refine ex_goto (tgt := 1545) ok_L_law (mL13 39 rfl) rfl ?_
      exact ex_ls (ls' := [(0, .ref s), (4, .int (nI 0))]) ⟨rfl, rfl, trivial⟩ (lw_end (m2.1.trans s1) (m2.2.1.trans t1) (hq _))
    · skip
      refine ex_aload_n ok_L_law (mL12 37 rfl) rfl ?_
      refine ex_aload_n ok_L_law (mL12 38 rfl) rfl ?_
      refine ex_iload ok_L_law (mL12 39 rfl) rfl ?_
      refine ex_iconst ok_L_law (mL12 40 rfl) ?_
      refine ex_iadd ok_L_law (mL12 41 rfl) ?_
      refine ex_top (w := nI 1) (by decide) ?_
      refine ex_ialdx ok_L_law (mL12 42 rfl) (Or.inr k2) n2 (pk_in 1 4 (by decide)) (a2 1 (by decide)) ?_
      refine ex_aload_n ok_L_law (mL12 43 rfl) rfl ?_
      refine ex_iload ok_L_law (mL12 44 rfl) rfl ?_
      refine ex_iconst ok_L_law (mL12 45 rfl) ?_
      refine ex_iadd ok_L_law (mL12 46 rfl) ?_
      refine ex_top (w := nI 2) (by decide) ?_
      refine ex_ialdx ok_L_law (mL12 47 rfl) (Or.inr k2) n2 (pk_in 2 4 (by decide)) (a2 2 (by decide)) ?_
      refine ex_aload_n ok_L_law (mL12 48 rfl) rfl ?_
      refine ex_iload ok_L_law (mL12 49 rfl) rfl ?_
      refine ex_iconst ok_L_law (mL12 50 rfl) ?_
      refine ex_iadd ok_L_law (mL12 51 rfl) ?_
      refine ex_top (w := nI 3) (by decide) ?_
      refine ex_ialdx ok_L_law (mL12 52 rfl) (Or.inr k2) n2 (pk_in 3 4 (by decide)) (a2 3 (by decide)) ?_
      refine ex_if_eq (tgt := 1284) ok_L_law (mL12 53 rfl) rfl (fun hn => absurd hn e3) (fun _ => ?_)
      refine ex_iconst ok_L_law (mL12 54 rfl) ?_
      refine ex_goto (tgt := 1285) ok_L_law (mL12 55 rfl) rfl ?_
      refine ex_aload_n ok_L_law (mL12 57 rfl) rfl ?_
      refine ex_callSHs (As := [_, _, _, _, _]) ok_L_law (mL12 58 rfl) rfl (l_vote1 hst hc f (by omega) k1 n1) rfl rfl rfl (by decide) (Nat.le_of_ble_eq_true rfl) ⟨hmc, hms⟩ (fun z h1 hl => ?_)
      obtain ⟨rfl, l1, l2, l3, l4⟩ := hl
      have fm1 : FM h1 (x + 892) := FM_sm (fun q a b => l4 q (Or.inr a) (by omega)) fm
      have m1 := l4 s (Or.inl hs) (by omega)
      have s1 := m1.1.trans k2
      have t1 := m1.2.1.trans n2
      have a1 : ∀ j, j < 4 → gx_A h1 s j = p j := fun j hj => (m1.2.2.2.2.1 j).trans (a2 j hj)
      refine ex_istore ok_L_law (mL12 59 rfl) ?_
      refine ex_aload_n ok_L_law (mL13 0 rfl) rfl ?_
      refine ex_aload_n ok_L_law (mL13 1 rfl) rfl ?_
      refine ex_iload ok_L_law (mL13 2 rfl) rfl ?_
      refine ex_iconst ok_L_law (mL13 3 rfl) ?_
      refine ex_iadd ok_L_law (mL13 4 rfl) ?_
      refine ex_top (w := nI 1) (by decide) ?_
      refine ex_ialdx ok_L_law (mL13 5 rfl) (Or.inr s1) t1 (pk_in 1 4 (by decide)) (a1 1 (by decide)) ?_
      refine ex_aload_n ok_L_law (mL13 6 rfl) rfl ?_
      refine ex_iload ok_L_law (mL13 7 rfl) rfl ?_
      refine ex_iconst ok_L_law (mL13 8 rfl) ?_
      refine ex_iadd ok_L_law (mL13 9 rfl) ?_
      refine ex_top (w := nI 2) (by decide) ?_
      refine ex_ialdx ok_L_law (mL13 10 rfl) (Or.inr s1) t1 (pk_in 2 4 (by decide)) (a1 2 (by decide)) ?_
      refine ex_aload_n ok_L_law (mL13 11 rfl) rfl ?_
      refine ex_iload ok_L_law (mL13 12 rfl) rfl ?_
      refine ex_iconst ok_L_law (mL13 13 rfl) ?_
      refine ex_iadd ok_L_law (mL13 14 rfl) ?_
      refine ex_top (w := nI 3) (by decide) ?_
      refine ex_ialdx ok_L_law (mL13 15 rfl) (Or.inr s1) t1 (pk_in 3 4 (by decide)) (a1 3 (by decide)) ?_
      refine ex_if_eq (tgt := 1317) ok_L_law (mL13 16 rfl) rfl (fun hn => absurd hn e3) (fun _ => ?_)
      refine ex_iconst ok_L_law (mL13 17 rfl) ?_
      refine ex_goto (tgt := 1318) ok_L_law (mL13 18 rfl) rfl ?_
      refine ex_callVs (As := [_, _, _]) ok_L_law (mL13 20 rfl) rfl (MMs hm fm1) rfl (fk (x := x + 892) (a := 0) fm1.1 0 rfl) rfl rfl (by decide) (by decide) (Nat.le_of_ble_eq_true rfl) ⟨Nat.zero_le _, Nat.zero_le _⟩ (fun z h2 hl => ?_)
      obtain ⟨u, rfl, u1, u2, u3, u4⟩ := hl
      have m2 := u4.2 s (Or.inl (by omega))
      refine ex_istore ok_L_law (mL13 21 rfl) ?_
      refine ex_aload_n ok_L_law (mL13 22 rfl) rfl ?_
      refine ex_callVr (As := []) ok_L_law (mL13 23 rfl) rfl (m_X12_thrown hst u3 u2) rfl u3 rfl rfl (by decide) (by decide) (Nat.le_of_ble_eq_true rfl) ⟨Nat.zero_le _, Nat.zero_le _⟩ ?_
      refine ex_iload ok_L_law (mL13 24 rfl) rfl ?_
      refine ex_icmp_eq (tgt := 1334) ok_L_law (mL13 25 rfl) rfl (fun _ => ?_) (fun hn => absurd rfl hn)
      refine ex_iload ok_L_law (mL13 28 rfl) rfl ?_
      refine ex_if_ne (tgt := 1351) ok_L_law (mL13 29 rfl) rfl (fun _ => ?_) (fun hn => absurd hn (by decide))
      refine ex_goto (tgt := 1545) ok_L_law (mL13 39 rfl) rfl ?_
      exact ex_ls (ls' := [(0, .ref s), (4, .int (nI 0))]) ⟨rfl, rfl, trivial⟩ (lw_end (m2.1.trans s1) (m2.2.1.trans t1) (hq _))
theorem w_copy {G : GE} (hst : (ge_l G).stackTraces = false) {x s mc ms : Nat} {h : GT} {Q : RT → GT → Prop} {p : Nat → Int32} (w : LW h x s p) (hmc : 4 ≤ mc) (hms : 24 ≤ ms) (hq : ∀ h', Q (.inl (some (.int (nI 1)))) h') : ex_W G 10 mc ms M_L_law 1354 [(0, .ref s), (1, .ref x), (2, .ref (x + 892)), (3, .ref (x + 952)), (4, .int (nI 0))] [] h Q := by
  obtain ⟨f, fm, k1, n1, hs, k2, n2, a2⟩ := w
  obtain ⟨k, v, hk, hc, hm⟩ := b_copy (x := x) (y := x + 892) hst (p 1) (p 2)
  rcases (by omega : k = 0 ∨ k = 1) with rfl | rfl
  · skip
    refine ex_aload_n ok_L_law (mL13 40 rfl) rfl ?_
    refine ex_aload_n ok_L_law (mL13 41 rfl) rfl ?_
    refine ex_iload ok_L_law (mL13 42 rfl) rfl ?_
    refine ex_iconst ok_L_law (mL13 43 rfl) ?_
    refine ex_iadd ok_L_law (mL13 44 rfl) ?_
    refine ex_top (w := nI 1) (by decide) ?_
    refine ex_ialdx ok_L_law (mL13 45 rfl) (Or.inr k2) n2 (pk_in 1 4 (by decide)) (a2 1 (by decide)) ?_
    refine ex_aload_n ok_L_law (mL13 46 rfl) rfl ?_
    refine ex_iload ok_L_law (mL13 47 rfl) rfl ?_
    refine ex_iconst ok_L_law (mL13 48 rfl) ?_
    refine ex_iadd ok_L_law (mL13 49 rfl) ?_
    refine ex_top (w := nI 2) (by decide) ?_
    refine ex_ialdx ok_L_law (mL13 50 rfl) (Or.inr k2) n2 (pk_in 2 4 (by decide)) (a2 2 (by decide)) ?_
    refine ex_aload_n ok_L_law (mL13 51 rfl) rfl ?_
    refine ex_callSHs (As := [_, _, _, _]) ok_L_law (mL13 52 rfl) rfl (l_copy0 hst hc f (by omega) k1 n1) rfl rfl rfl (by decide) (Nat.le_of_ble_eq_true rfl) ⟨hmc, hms⟩ (fun z h1 hl => ?_)
    obtain ⟨rfl, l1, l2, l3, l4⟩ := hl
    have fm1 : FM h1 (x + 892) := FM_sm (fun q a b => l4 q (Or.inr a) (by omega)) fm
    have m1 := l4 s (Or.inl hs) (by omega)
    have s1 := m1.1.trans k2
    have t1 := m1.2.1.trans n2
    have a1 : ∀ j, j < 4 → gx_A h1 s j = p j := fun j hj => (m1.2.2.2.2.1 j).trans (a2 j hj)
    refine ex_istore ok_L_law (mL13 53 rfl) ?_
    refine ex_aload_n ok_L_law (mL13 54 rfl) rfl ?_
    refine ex_aload_n ok_L_law (mL13 55 rfl) rfl ?_
    refine ex_iload ok_L_law (mL13 56 rfl) rfl ?_
    refine ex_iconst ok_L_law (mL13 57 rfl) ?_
    refine ex_iadd ok_L_law (mL13 58 rfl) ?_
    refine ex_top (w := nI 1) (by decide) ?_
    refine ex_ialdx ok_L_law (mL13 59 rfl) (Or.inr s1) t1 (pk_in 1 4 (by decide)) (a1 1 (by decide)) ?_
    refine ex_aload_n ok_L_law (mL14 0 rfl) rfl ?_
    refine ex_iload ok_L_law (mL14 1 rfl) rfl ?_
    refine ex_iconst ok_L_law (mL14 2 rfl) ?_
    refine ex_iadd ok_L_law (mL14 3 rfl) ?_
    refine ex_top (w := nI 2) (by decide) ?_
    refine ex_ialdx ok_L_law (mL14 4 rfl) (Or.inr s1) t1 (pk_in 2 4 (by decide)) (a1 2 (by decide)) ?_
    refine ex_callVs (As := [_, _]) ok_L_law (mL14 5 rfl) rfl (MMs hm fm1) rfl (fk (x := x + 892) (a := 0) fm1.1 0 rfl) rfl rfl (by decide) (by decide) (Nat.le_of_ble_eq_true rfl) ⟨Nat.zero_le _, Nat.zero_le _⟩ (fun z h2 hl => ?_)
    obtain ⟨u, rfl, u1, u2, u3, u4⟩ := hl
    have m2 := u4.2 s (Or.inl (by omega))
    refine ex_istore ok_L_law (mL14 6 rfl) ?_
    refine ex_aload_n ok_L_law (mL14 7 rfl) rfl ?_
    refine ex_callVr (As := []) ok_L_law (mL14 8 rfl) rfl (m_X12_thrown hst u3 u2) rfl u3 rfl rfl (by decide) (by decide) (Nat.le_of_ble_eq_true rfl) ⟨Nat.zero_le _, Nat.zero_le _⟩ ?_
    refine ex_iload ok_L_law (mL14 9 rfl) rfl ?_
    refine ex_icmp_eq (tgt := 1402) ok_L_law (mL14 10 rfl) rfl (fun _ => ?_) (fun hn => absurd rfl hn)
    refine ex_iload ok_L_law (mL14 13 rfl) rfl ?_
    refine ex_if_ne (tgt := 1419) ok_L_law (mL14 14 rfl) rfl (fun hn => absurd (by decide) hn) (fun _ => ?_)
    refine ex_aload_n ok_L_law (mL14 15 rfl) rfl ?_
    refine ex_iconst ok_L_law (mL14 16 rfl) ?_
    obtain rfl := u1 rfl
    have m3 := u4.2 (x + 952) (Or.inr (by omega))
    refine ex_laldx (v := u.toInt64) ok_L_law (mL14 17 rfl) (m3.1.trans l2) (m3.2.1.trans l3) (pk_in 0 1 (by decide)) ((m3.2.2.2.2.2.1 0).trans (l1 rfl)) ?_
    refine ex_iload ok_L_law (mL14 18 rfl) rfl ?_
    refine ex_i2l ok_L_law (mL14 19 rfl) ?_
    refine ex_lcmp ok_L_law (mL14 20 rfl) ?_
    refine ex_top (w := 0) (lgc _) ?_
    refine ex_if_eq (tgt := 1419) ok_L_law (mL14 21 rfl) rfl (fun _ => ?_) (fun hn => absurd rfl hn)
    refine ex_goto (tgt := 1545) ok_L_law (mL14 24 rfl) rfl ?_
    exact ex_ls (ls' := [(0, .ref s), (4, .int (nI 0))]) ⟨rfl, rfl, trivial⟩ (lw_end (m2.1.trans s1) (m2.2.1.trans t1) (hq _))
  · skip
    refine ex_aload_n ok_L_law (mL13 40 rfl) rfl ?_
    refine ex_aload_n ok_L_law (mL13 41 rfl) rfl ?_
    refine ex_iload ok_L_law (mL13 42 rfl) rfl ?_
    refine ex_iconst ok_L_law (mL13 43 rfl) ?_
    refine ex_iadd ok_L_law (mL13 44 rfl) ?_
    refine ex_top (w := nI 1) (by decide) ?_
    refine ex_ialdx ok_L_law (mL13 45 rfl) (Or.inr k2) n2 (pk_in 1 4 (by decide)) (a2 1 (by decide)) ?_
    refine ex_aload_n ok_L_law (mL13 46 rfl) rfl ?_
    refine ex_iload ok_L_law (mL13 47 rfl) rfl ?_
    refine ex_iconst ok_L_law (mL13 48 rfl) ?_
    refine ex_iadd ok_L_law (mL13 49 rfl) ?_
    refine ex_top (w := nI 2) (by decide) ?_
    refine ex_ialdx ok_L_law (mL13 50 rfl) (Or.inr k2) n2 (pk_in 2 4 (by decide)) (a2 2 (by decide)) ?_
    refine ex_aload_n ok_L_law (mL13 51 rfl) rfl ?_
    refine ex_callSHs (As := [_, _, _, _]) ok_L_law (mL13 52 rfl) rfl (l_copy1 hst hc f (by omega) k1 n1) rfl rfl rfl (by decide) (Nat.le_of_ble_eq_true rfl) ⟨hmc, hms⟩ (fun z h1 hl => ?_)
    obtain ⟨rfl, l1, l2, l3, l4⟩ := hl
    have fm1 : FM h1 (x + 892) := FM_sm (fun q a b => l4 q (Or.inr a) (by omega)) fm
    have m1 := l4 s (Or.inl hs) (by omega)
    have s1 := m1.1.trans k2
    have t1 := m1.2.1.trans n2
    have a1 : ∀ j, j < 4 → gx_A h1 s j = p j := fun j hj => (m1.2.2.2.2.1 j).trans (a2 j hj)
    refine ex_istore ok_L_law (mL13 53 rfl) ?_
    refine ex_aload_n ok_L_law (mL13 54 rfl) rfl ?_
    refine ex_aload_n ok_L_law (mL13 55 rfl) rfl ?_
    refine ex_iload ok_L_law (mL13 56 rfl) rfl ?_
    refine ex_iconst ok_L_law (mL13 57 rfl) ?_
    refine ex_iadd ok_L_law (mL13 58 rfl) ?_
    refine ex_top (w := nI 1) (by decide) ?_
    refine ex_ialdx ok_L_law (mL13 59 rfl) (Or.inr s1) t1 (pk_in 1 4 (by decide)) (a1 1 (by decide)) ?_
    refine ex_aload_n ok_L_law (mL14 0 rfl) rfl ?_
    refine ex_iload ok_L_law (mL14 1 rfl) rfl ?_
    refine ex_iconst ok_L_law (mL14 2 rfl) ?_
    refine ex_iadd ok_L_law (mL14 3 rfl) ?_
    refine ex_top (w := nI 2) (by decide) ?_
    refine ex_ialdx ok_L_law (mL14 4 rfl) (Or.inr s1) t1 (pk_in 2 4 (by decide)) (a1 2 (by decide)) ?_
    refine ex_callVs (As := [_, _]) ok_L_law (mL14 5 rfl) rfl (MMs hm fm1) rfl (fk (x := x + 892) (a := 0) fm1.1 0 rfl) rfl rfl (by decide) (by decide) (Nat.le_of_ble_eq_true rfl) ⟨Nat.zero_le _, Nat.zero_le _⟩ (fun z h2 hl => ?_)
    obtain ⟨u, rfl, u1, u2, u3, u4⟩ := hl
    have m2 := u4.2 s (Or.inl (by omega))
    refine ex_istore ok_L_law (mL14 6 rfl) ?_
    refine ex_aload_n ok_L_law (mL14 7 rfl) rfl ?_
    refine ex_callVr (As := []) ok_L_law (mL14 8 rfl) rfl (m_X12_thrown hst u3 u2) rfl u3 rfl rfl (by decide) (by decide) (Nat.le_of_ble_eq_true rfl) ⟨Nat.zero_le _, Nat.zero_le _⟩ ?_
    refine ex_iload ok_L_law (mL14 9 rfl) rfl ?_
    refine ex_icmp_eq (tgt := 1402) ok_L_law (mL14 10 rfl) rfl (fun _ => ?_) (fun hn => absurd rfl hn)
    refine ex_iload ok_L_law (mL14 13 rfl) rfl ?_
    refine ex_if_ne (tgt := 1419) ok_L_law (mL14 14 rfl) rfl (fun _ => ?_) (fun hn => absurd hn (by decide))
    refine ex_goto (tgt := 1545) ok_L_law (mL14 24 rfl) rfl ?_
    exact ex_ls (ls' := [(0, .ref s), (4, .int (nI 0))]) ⟨rfl, rfl, trivial⟩ (lw_end (m2.1.trans s1) (m2.2.1.trans t1) (hq _))
theorem w_agreed {G : GE} (hst : (ge_l G).stackTraces = false) {x s mc ms : Nat} {h : GT} {Q : RT → GT → Prop} {p : Nat → Int32} (w : LW h x s p) (hmc : 4 ≤ mc) (hms : 24 ≤ ms) (hq : ∀ h', Q (.inl (some (.int (nI 1)))) h') : ex_W G 10 mc ms M_L_law 1422 [(0, .ref s), (1, .ref x), (2, .ref (x + 892)), (3, .ref (x + 952)), (4, .int (nI 0))] [] h Q := by
  obtain ⟨f, fm, k1, n1, hs, k2, n2, a2⟩ := w
  obtain ⟨k, v, hk, hc, hm⟩ := b_agreed (x := x) (y := x + 892) hst (p 1)
  rcases (by omega : k = 0 ∨ k = 1) with rfl | rfl
  · skip
    refine ex_aload_n ok_L_law (mL14 25 rfl) rfl ?_
    refine ex_aload_n ok_L_law (mL14 26 rfl) rfl ?_
    refine ex_iload ok_L_law (mL14 27 rfl) rfl ?_
    refine ex_iconst ok_L_law (mL14 28 rfl) ?_
    refine ex_iadd ok_L_law (mL14 29 rfl) ?_
    refine ex_top (w := nI 1) (by decide) ?_
    refine ex_ialdx ok_L_law (mL14 30 rfl) (Or.inr k2) n2 (pk_in 1 4 (by decide)) (a2 1 (by decide)) ?_
    refine ex_aload_n ok_L_law (mL14 31 rfl) rfl ?_
    refine ex_callSHs (As := [_, _, _]) ok_L_law (mL14 32 rfl) rfl (l_agreed0 hst hc f (by omega) k1 n1) rfl rfl rfl (by decide) (Nat.le_of_ble_eq_true rfl) ⟨hmc, hms⟩ (fun z h1 hl => ?_)
    obtain ⟨rfl, l1, l2, l3, l4⟩ := hl
    have fm1 : FM h1 (x + 892) := FM_sm (fun q a b => l4 q (Or.inr a) (by omega)) fm
    have m1 := l4 s (Or.inl hs) (by omega)
    have s1 := m1.1.trans k2
    have t1 := m1.2.1.trans n2
    have a1 : ∀ j, j < 4 → gx_A h1 s j = p j := fun j hj => (m1.2.2.2.2.1 j).trans (a2 j hj)
    refine ex_istore ok_L_law (mL14 33 rfl) ?_
    refine ex_aload_n ok_L_law (mL14 34 rfl) rfl ?_
    refine ex_aload_n ok_L_law (mL14 35 rfl) rfl ?_
    refine ex_iload ok_L_law (mL14 36 rfl) rfl ?_
    refine ex_iconst ok_L_law (mL14 37 rfl) ?_
    refine ex_iadd ok_L_law (mL14 38 rfl) ?_
    refine ex_top (w := nI 1) (by decide) ?_
    refine ex_ialdx ok_L_law (mL14 39 rfl) (Or.inr s1) t1 (pk_in 1 4 (by decide)) (a1 1 (by decide)) ?_
    refine ex_callVs (As := [_]) ok_L_law (mL14 40 rfl) rfl (MMs hm fm1) rfl (fk (x := x + 892) (a := 0) fm1.1 0 rfl) rfl rfl (by decide) (by decide) (Nat.le_of_ble_eq_true rfl) ⟨Nat.zero_le _, Nat.zero_le _⟩ (fun z h2 hl => ?_)
    obtain ⟨u, rfl, u1, u2, u3, u4⟩ := hl
    have m2 := u4.2 s (Or.inl (by omega))
    refine ex_istore ok_L_law (mL14 41 rfl) ?_
    refine ex_aload_n ok_L_law (mL14 42 rfl) rfl ?_
    refine ex_callVr (As := []) ok_L_law (mL14 43 rfl) rfl (m_X12_thrown hst u3 u2) rfl u3 rfl rfl (by decide) (by decide) (Nat.le_of_ble_eq_true rfl) ⟨Nat.zero_le _, Nat.zero_le _⟩ ?_
    refine ex_iload ok_L_law (mL14 44 rfl) rfl ?_
    refine ex_icmp_eq (tgt := 1458) ok_L_law (mL14 45 rfl) rfl (fun _ => ?_) (fun hn => absurd rfl hn)
    refine ex_iload ok_L_law (mL14 48 rfl) rfl ?_
    refine ex_if_ne (tgt := 1475) ok_L_law (mL14 49 rfl) rfl (fun hn => absurd (by decide) hn) (fun _ => ?_)
    refine ex_aload_n ok_L_law (mL14 50 rfl) rfl ?_
    refine ex_iconst ok_L_law (mL14 51 rfl) ?_
    obtain rfl := u1 rfl
    have m3 := u4.2 (x + 952) (Or.inr (by omega))
    refine ex_laldx (v := u.toInt64) ok_L_law (mL14 52 rfl) (m3.1.trans l2) (m3.2.1.trans l3) (pk_in 0 1 (by decide)) ((m3.2.2.2.2.2.1 0).trans (l1 rfl)) ?_
    refine ex_iload ok_L_law (mL14 53 rfl) rfl ?_
    refine ex_i2l ok_L_law (mL14 54 rfl) ?_
    refine ex_lcmp ok_L_law (mL14 55 rfl) ?_
    refine ex_top (w := 0) (lgc _) ?_
    refine ex_if_eq (tgt := 1475) ok_L_law (mL14 56 rfl) rfl (fun _ => ?_) (fun hn => absurd rfl hn)
    refine ex_goto (tgt := 1545) ok_L_law (mL14 59 rfl) rfl ?_
    exact ex_ls (ls' := [(0, .ref s), (4, .int (nI 0))]) ⟨rfl, rfl, trivial⟩ (lw_end (m2.1.trans s1) (m2.2.1.trans t1) (hq _))
  · skip
    refine ex_aload_n ok_L_law (mL14 25 rfl) rfl ?_
    refine ex_aload_n ok_L_law (mL14 26 rfl) rfl ?_
    refine ex_iload ok_L_law (mL14 27 rfl) rfl ?_
    refine ex_iconst ok_L_law (mL14 28 rfl) ?_
    refine ex_iadd ok_L_law (mL14 29 rfl) ?_
    refine ex_top (w := nI 1) (by decide) ?_
    refine ex_ialdx ok_L_law (mL14 30 rfl) (Or.inr k2) n2 (pk_in 1 4 (by decide)) (a2 1 (by decide)) ?_
    refine ex_aload_n ok_L_law (mL14 31 rfl) rfl ?_
    refine ex_callSHs (As := [_, _, _]) ok_L_law (mL14 32 rfl) rfl (l_agreed1 hst hc f (by omega) k1 n1) rfl rfl rfl (by decide) (Nat.le_of_ble_eq_true rfl) ⟨hmc, hms⟩ (fun z h1 hl => ?_)
    obtain ⟨rfl, l1, l2, l3, l4⟩ := hl
    have fm1 : FM h1 (x + 892) := FM_sm (fun q a b => l4 q (Or.inr a) (by omega)) fm
    have m1 := l4 s (Or.inl hs) (by omega)
    have s1 := m1.1.trans k2
    have t1 := m1.2.1.trans n2
    have a1 : ∀ j, j < 4 → gx_A h1 s j = p j := fun j hj => (m1.2.2.2.2.1 j).trans (a2 j hj)
    refine ex_istore ok_L_law (mL14 33 rfl) ?_
    refine ex_aload_n ok_L_law (mL14 34 rfl) rfl ?_
    refine ex_aload_n ok_L_law (mL14 35 rfl) rfl ?_
    refine ex_iload ok_L_law (mL14 36 rfl) rfl ?_
    refine ex_iconst ok_L_law (mL14 37 rfl) ?_
    refine ex_iadd ok_L_law (mL14 38 rfl) ?_
    refine ex_top (w := nI 1) (by decide) ?_
    refine ex_ialdx ok_L_law (mL14 39 rfl) (Or.inr s1) t1 (pk_in 1 4 (by decide)) (a1 1 (by decide)) ?_
    refine ex_callVs (As := [_]) ok_L_law (mL14 40 rfl) rfl (MMs hm fm1) rfl (fk (x := x + 892) (a := 0) fm1.1 0 rfl) rfl rfl (by decide) (by decide) (Nat.le_of_ble_eq_true rfl) ⟨Nat.zero_le _, Nat.zero_le _⟩ (fun z h2 hl => ?_)
    obtain ⟨u, rfl, u1, u2, u3, u4⟩ := hl
    have m2 := u4.2 s (Or.inl (by omega))
    refine ex_istore ok_L_law (mL14 41 rfl) ?_
    refine ex_aload_n ok_L_law (mL14 42 rfl) rfl ?_
    refine ex_callVr (As := []) ok_L_law (mL14 43 rfl) rfl (m_X12_thrown hst u3 u2) rfl u3 rfl rfl (by decide) (by decide) (Nat.le_of_ble_eq_true rfl) ⟨Nat.zero_le _, Nat.zero_le _⟩ ?_
    refine ex_iload ok_L_law (mL14 44 rfl) rfl ?_
    refine ex_icmp_eq (tgt := 1458) ok_L_law (mL14 45 rfl) rfl (fun _ => ?_) (fun hn => absurd rfl hn)
    refine ex_iload ok_L_law (mL14 48 rfl) rfl ?_
    refine ex_if_ne (tgt := 1475) ok_L_law (mL14 49 rfl) rfl (fun _ => ?_) (fun hn => absurd hn (by decide))
    refine ex_goto (tgt := 1545) ok_L_law (mL14 59 rfl) rfl ?_
    exact ex_ls (ls' := [(0, .ref s), (4, .int (nI 0))]) ⟨rfl, rfl, trivial⟩ (lw_end (m2.1.trans s1) (m2.2.1.trans t1) (hq _))
theorem w_count {G : GE} (hst : (ge_l G).stackTraces = false) {x s mc ms : Nat} {h : GT} {Q : RT → GT → Prop} {p : Nat → Int32} (w : LW h x s p) (hmc : 4 ≤ mc) (hms : 24 ≤ ms) (hq : ∀ h', Q (.inl (some (.int (nI 1)))) h') : ex_W G 10 mc ms M_L_law 1478 [(0, .ref s), (1, .ref x), (2, .ref (x + 892)), (3, .ref (x + 952)), (4, .int (nI 0))] [] h Q := by
  obtain ⟨f, fm, k1, n1, hs, k2, n2, a2⟩ := w
  obtain ⟨k, v, hk, hc, hm⟩ := b_count (x := x) (y := x + 892) hst (p 1)
  rcases (by omega : k = 0 ∨ k = 1) with rfl | rfl
  · skip
    refine ex_aload_n ok_L_law (mL15 0 rfl) rfl ?_
    refine ex_aload_n ok_L_law (mL15 1 rfl) rfl ?_
    refine ex_iload ok_L_law (mL15 2 rfl) rfl ?_
    refine ex_iconst ok_L_law (mL15 3 rfl) ?_
    refine ex_iadd ok_L_law (mL15 4 rfl) ?_
    refine ex_top (w := nI 1) (by decide) ?_
    refine ex_ialdx ok_L_law (mL15 5 rfl) (Or.inr k2) n2 (pk_in 1 4 (by decide)) (a2 1 (by decide)) ?_
    refine ex_aload_n ok_L_law (mL15 6 rfl) rfl ?_
    refine ex_callSHs (As := [_, _, _]) ok_L_law (mL15 7 rfl) rfl (l_count0 hst hc f (by omega) k1 n1) rfl rfl rfl (by decide) (Nat.le_of_ble_eq_true rfl) ⟨hmc, hms⟩ (fun z h1 hl => ?_)
    obtain ⟨rfl, l1, l2, l3, l4⟩ := hl
    have fm1 : FM h1 (x + 892) := FM_sm (fun q a b => l4 q (Or.inr a) (by omega)) fm
    have m1 := l4 s (Or.inl hs) (by omega)
    have s1 := m1.1.trans k2
    have t1 := m1.2.1.trans n2
    have a1 : ∀ j, j < 4 → gx_A h1 s j = p j := fun j hj => (m1.2.2.2.2.1 j).trans (a2 j hj)
    refine ex_istore ok_L_law (mL15 8 rfl) ?_
    refine ex_aload_n ok_L_law (mL15 9 rfl) rfl ?_
    refine ex_aload_n ok_L_law (mL15 10 rfl) rfl ?_
    refine ex_iload ok_L_law (mL15 11 rfl) rfl ?_
    refine ex_iconst ok_L_law (mL15 12 rfl) ?_
    refine ex_iadd ok_L_law (mL15 13 rfl) ?_
    refine ex_top (w := nI 1) (by decide) ?_
    refine ex_ialdx ok_L_law (mL15 14 rfl) (Or.inr s1) t1 (pk_in 1 4 (by decide)) (a1 1 (by decide)) ?_
    refine ex_callVs (As := [_]) ok_L_law (mL15 15 rfl) rfl (MMs hm fm1) rfl (fk (x := x + 892) (a := 0) fm1.1 0 rfl) rfl rfl (by decide) (by decide) (Nat.le_of_ble_eq_true rfl) ⟨Nat.zero_le _, Nat.zero_le _⟩ (fun z h2 hl => ?_)
    obtain ⟨u, rfl, u1, u2, u3, u4⟩ := hl
    have m2 := u4.2 s (Or.inl (by omega))
    refine ex_istore ok_L_law (mL15 16 rfl) ?_
    refine ex_aload_n ok_L_law (mL15 17 rfl) rfl ?_
    refine ex_callVr (As := []) ok_L_law (mL15 18 rfl) rfl (m_X12_thrown hst u3 u2) rfl u3 rfl rfl (by decide) (by decide) (Nat.le_of_ble_eq_true rfl) ⟨Nat.zero_le _, Nat.zero_le _⟩ ?_
    refine ex_iload ok_L_law (mL15 19 rfl) rfl ?_
    refine ex_icmp_eq (tgt := 1514) ok_L_law (mL15 20 rfl) rfl (fun _ => ?_) (fun hn => absurd rfl hn)
    refine ex_iload ok_L_law (mL15 23 rfl) rfl ?_
    refine ex_if_ne (tgt := 1531) ok_L_law (mL15 24 rfl) rfl (fun hn => absurd (by decide) hn) (fun _ => ?_)
    refine ex_aload_n ok_L_law (mL15 25 rfl) rfl ?_
    refine ex_iconst ok_L_law (mL15 26 rfl) ?_
    obtain rfl := u1 rfl
    have m3 := u4.2 (x + 952) (Or.inr (by omega))
    refine ex_laldx (v := u.toInt64) ok_L_law (mL15 27 rfl) (m3.1.trans l2) (m3.2.1.trans l3) (pk_in 0 1 (by decide)) ((m3.2.2.2.2.2.1 0).trans (l1 rfl)) ?_
    refine ex_iload ok_L_law (mL15 28 rfl) rfl ?_
    refine ex_i2l ok_L_law (mL15 29 rfl) ?_
    refine ex_lcmp ok_L_law (mL15 30 rfl) ?_
    refine ex_top (w := 0) (lgc _) ?_
    refine ex_if_eq (tgt := 1531) ok_L_law (mL15 31 rfl) rfl (fun _ => ?_) (fun hn => absurd rfl hn)
    refine ex_goto (tgt := 1545) ok_L_law (mL15 34 rfl) rfl ?_
    exact ex_ls (ls' := [(0, .ref s), (4, .int (nI 0))]) ⟨rfl, rfl, trivial⟩ (lw_end (m2.1.trans s1) (m2.2.1.trans t1) (hq _))
  · skip
    refine ex_aload_n ok_L_law (mL15 0 rfl) rfl ?_
    refine ex_aload_n ok_L_law (mL15 1 rfl) rfl ?_
    refine ex_iload ok_L_law (mL15 2 rfl) rfl ?_
    refine ex_iconst ok_L_law (mL15 3 rfl) ?_
    refine ex_iadd ok_L_law (mL15 4 rfl) ?_
    refine ex_top (w := nI 1) (by decide) ?_
    refine ex_ialdx ok_L_law (mL15 5 rfl) (Or.inr k2) n2 (pk_in 1 4 (by decide)) (a2 1 (by decide)) ?_
    refine ex_aload_n ok_L_law (mL15 6 rfl) rfl ?_
    refine ex_callSHs (As := [_, _, _]) ok_L_law (mL15 7 rfl) rfl (l_count1 hst hc f (by omega) k1 n1) rfl rfl rfl (by decide) (Nat.le_of_ble_eq_true rfl) ⟨hmc, hms⟩ (fun z h1 hl => ?_)
    obtain ⟨rfl, l1, l2, l3, l4⟩ := hl
    have fm1 : FM h1 (x + 892) := FM_sm (fun q a b => l4 q (Or.inr a) (by omega)) fm
    have m1 := l4 s (Or.inl hs) (by omega)
    have s1 := m1.1.trans k2
    have t1 := m1.2.1.trans n2
    have a1 : ∀ j, j < 4 → gx_A h1 s j = p j := fun j hj => (m1.2.2.2.2.1 j).trans (a2 j hj)
    refine ex_istore ok_L_law (mL15 8 rfl) ?_
    refine ex_aload_n ok_L_law (mL15 9 rfl) rfl ?_
    refine ex_aload_n ok_L_law (mL15 10 rfl) rfl ?_
    refine ex_iload ok_L_law (mL15 11 rfl) rfl ?_
    refine ex_iconst ok_L_law (mL15 12 rfl) ?_
    refine ex_iadd ok_L_law (mL15 13 rfl) ?_
    refine ex_top (w := nI 1) (by decide) ?_
    refine ex_ialdx ok_L_law (mL15 14 rfl) (Or.inr s1) t1 (pk_in 1 4 (by decide)) (a1 1 (by decide)) ?_
    refine ex_callVs (As := [_]) ok_L_law (mL15 15 rfl) rfl (MMs hm fm1) rfl (fk (x := x + 892) (a := 0) fm1.1 0 rfl) rfl rfl (by decide) (by decide) (Nat.le_of_ble_eq_true rfl) ⟨Nat.zero_le _, Nat.zero_le _⟩ (fun z h2 hl => ?_)
    obtain ⟨u, rfl, u1, u2, u3, u4⟩ := hl
    have m2 := u4.2 s (Or.inl (by omega))
    refine ex_istore ok_L_law (mL15 16 rfl) ?_
    refine ex_aload_n ok_L_law (mL15 17 rfl) rfl ?_
    refine ex_callVr (As := []) ok_L_law (mL15 18 rfl) rfl (m_X12_thrown hst u3 u2) rfl u3 rfl rfl (by decide) (by decide) (Nat.le_of_ble_eq_true rfl) ⟨Nat.zero_le _, Nat.zero_le _⟩ ?_
    refine ex_iload ok_L_law (mL15 19 rfl) rfl ?_
    refine ex_icmp_eq (tgt := 1514) ok_L_law (mL15 20 rfl) rfl (fun _ => ?_) (fun hn => absurd rfl hn)
    refine ex_iload ok_L_law (mL15 23 rfl) rfl ?_
    refine ex_if_ne (tgt := 1531) ok_L_law (mL15 24 rfl) rfl (fun _ => ?_) (fun hn => absurd hn (by decide))
    refine ex_goto (tgt := 1545) ok_L_law (mL15 34 rfl) rfl ?_
    exact ex_ls (ls' := [(0, .ref s), (4, .int (nI 0))]) ⟨rfl, rfl, trivial⟩ (lw_end (m2.1.trans s1) (m2.2.1.trans t1) (hq _))
theorem w_clear {G : GE} (hst : (ge_l G).stackTraces = false) {x s mc ms : Nat} {h : GT} {Q : RT → GT → Prop} {p : Nat → Int32} (w : LW h x s p) (hq : ∀ h', Q (.inl (some (.int (nI 1)))) h') : ex_W G 10 mc ms M_L_law 1534 [(0, .ref s), (1, .ref x), (2, .ref (x + 892)), (3, .ref (x + 952)), (4, .int (nI 0))] [] h Q := by
  obtain ⟨f, fm, k1, n1, hs, k2, n2, a2⟩ := w
  refine ex_aload_n ok_L_law (mL15 35 rfl) rfl ?_
  refine ex_callVr (As := []) ok_L_law (mL15 36 rfl) rfl (m_X11_clear hst f) rfl (fk f.1 0 rfl) rfl rfl (by decide) (by decide) (Nat.le_of_ble_eq_true rfl) ⟨Nat.zero_le _, Nat.zero_le _⟩ ?_
  have z1 : kp x 892 h (ap x WR h) := kp_ap (by decide +kernel)
  have fm1 : FM (ap x WR h) (x + 892) := FM_sm (fun q a b => z1.2 q (Or.inr a)) fm
  refine ex_aload_n ok_L_law (mL15 37 rfl) rfl ?_
  refine ex_callVr (As := []) ok_L_law (mL15 38 rfl) rfl (m_X12_clear hst fm1.1) rfl (fk (x := x + 892) (a := 0) fm1.1 0 rfl) rfl rfl (by decide) (by decide) (Nat.le_of_ble_eq_true rfl) ⟨Nat.zero_le _, Nat.zero_le _⟩ ?_
  have z2 : kp (x + 892) 60 (ap x WR h) (ap (x + 892) WC (ap x WR h)) := kp_ap (by decide +kernel)
  have m2 := (z1.2 s (Or.inl hs)).trans (z2.2 s (Or.inl (by omega)))
  refine ex_goto (tgt := 1545) ok_L_law (mL15 39 rfl) rfl ?_
  exact ex_ls (ls' := [(0, .ref s), (4, .int (nI 0))]) ⟨rfl, rfl, trivial⟩ (lw_end (m2.1.trans k2) (m2.2.1.trans n2) (hq _))
