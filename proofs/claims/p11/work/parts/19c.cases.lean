/-! ===== the law's cases ===== -/
theorem mL0 {q : Nat × Instr × Nat} (i : Nat) (h : cL_0[i]? = some q) : q ∈ mt_c M_L_law := List.mem_append_left _ (List.mem_of_getElem? h)
theorem mL1 {q : Nat × Instr × Nat} (i : Nat) (h : cL_1[i]? = some q) : q ∈ mt_c M_L_law := List.mem_append_right _ (List.mem_append_left _ (List.mem_of_getElem? h))
theorem mL2 {q : Nat × Instr × Nat} (i : Nat) (h : cL_2[i]? = some q) : q ∈ mt_c M_L_law := List.mem_append_right _ (List.mem_append_right _ (List.mem_append_left _ (List.mem_of_getElem? h)))
theorem mL3 {q : Nat × Instr × Nat} (i : Nat) (h : cL_3[i]? = some q) : q ∈ mt_c M_L_law := List.mem_append_right _ (List.mem_append_right _ (List.mem_append_right _ (List.mem_append_left _ (List.mem_of_getElem? h))))
theorem mL4 {q : Nat × Instr × Nat} (i : Nat) (h : cL_4[i]? = some q) : q ∈ mt_c M_L_law := List.mem_append_right _ (List.mem_append_right _ (List.mem_append_right _ (List.mem_append_right _ (List.mem_append_left _ (List.mem_of_getElem? h)))))
theorem mL5 {q : Nat × Instr × Nat} (i : Nat) (h : cL_5[i]? = some q) : q ∈ mt_c M_L_law := List.mem_append_right _ (List.mem_append_right _ (List.mem_append_right _ (List.mem_append_right _ (List.mem_append_right _ (List.mem_append_left _ (List.mem_of_getElem? h))))))
theorem mL6 {q : Nat × Instr × Nat} (i : Nat) (h : cL_6[i]? = some q) : q ∈ mt_c M_L_law := List.mem_append_right _ (List.mem_append_right _ (List.mem_append_right _ (List.mem_append_right _ (List.mem_append_right _ (List.mem_append_right _ (List.mem_append_left _ (List.mem_of_getElem? h)))))))
theorem mL7 {q : Nat × Instr × Nat} (i : Nat) (h : cL_7[i]? = some q) : q ∈ mt_c M_L_law := List.mem_append_right _ (List.mem_append_right _ (List.mem_append_right _ (List.mem_append_right _ (List.mem_append_right _ (List.mem_append_right _ (List.mem_append_right _ (List.mem_append_left _ (List.mem_of_getElem? h))))))))
theorem mL8 {q : Nat × Instr × Nat} (i : Nat) (h : cL_8[i]? = some q) : q ∈ mt_c M_L_law := List.mem_append_right _ (List.mem_append_right _ (List.mem_append_right _ (List.mem_append_right _ (List.mem_append_right _ (List.mem_append_right _ (List.mem_append_right _ (List.mem_append_right _ (List.mem_append_left _ (List.mem_of_getElem? h)))))))))
theorem mL9 {q : Nat × Instr × Nat} (i : Nat) (h : cL_9[i]? = some q) : q ∈ mt_c M_L_law := List.mem_append_right _ (List.mem_append_right _ (List.mem_append_right _ (List.mem_append_right _ (List.mem_append_right _ (List.mem_append_right _ (List.mem_append_right _ (List.mem_append_right _ (List.mem_append_right _ (List.mem_append_left _ (List.mem_of_getElem? h))))))))))
theorem mL10 {q : Nat × Instr × Nat} (i : Nat) (h : cL_10[i]? = some q) : q ∈ mt_c M_L_law := List.mem_append_right _ (List.mem_append_right _ (List.mem_append_right _ (List.mem_append_right _ (List.mem_append_right _ (List.mem_append_right _ (List.mem_append_right _ (List.mem_append_right _ (List.mem_append_right _ (List.mem_append_right _ (List.mem_of_getElem? h))))))))))
theorem lw_ld {G : GE} {d mc ms : Nat} {M : MT} {pc : Nat} {ls : List (Nat × Value)} {st : List Value} {g : GT} {Q : RT → GT → Prop} {s i L : Nat} {v : Int32} (hM : mt_ok M = true) (hf : mt_in M pc (.iaload) 1) (hk : gx_K g s = 60) (hn : gx_N g s = L) (hL : L ≤ 2048) (hi : i < L) (ha : gx_A g s i = v) (k : ex_W G d mc ms M (pc + 1) ls (.int v :: st) g Q) : ex_W G d mc ms M pc ls (.int (nI i) :: .ref s :: st) g Q :=
  ex_ialdx hM hf (Or.inr hk) hn (vp_in_nI hi (by omega)) (by rw [nI_clamp (by omega)]; exact ha) k
theorem ex_laldx {G : GE} {d mc ms : Nat} {M : MT} {pc : Nat} {ls : List (Nat × Value)} {st : List Value} {g : GT} {Q : RT → GT → Prop} {a N : Nat} {i : Int32} {v : Int64} (hM : mt_ok M = true) (hf : mt_in M pc (.laload) 1) (hk : gx_K g a = 51) (hN : gx_N g a = N) (hin : vp_in i N) (hx : gx_L g a i.toNatClampNeg = v) (k : ex_W G d mc ms M (pc + 1) ls (.long v :: st) g Q) : ex_W G d mc ms M pc ls (.int i :: .ref a :: st) g Q :=
  ex_lald hM hf hk (by rw [hN]; exact hin) (by rw [hx]; exact k)
theorem w_begin {G : GE} (hst : (ge_l G).stackTraces = false) {x o s L i mc ms : Nat} {h : GT} {Q : RT → GT → Prop} {xs u d : Nat → Int32} (hL : L ≤ 2048) (hi : i + 4 ≤ L) (w : LB h x o s L xs u d) (hmc : 4 ≤ mc) (hms : 24 ≤ ms) (hq : ∀ h, LB h x o s L xs u d → ex_W G 10 (mc - 4) (ms - 24) M_L_law 1006 [(0, .ref s), (1, .ref x), (2, .ref (x + 892)), (3, .ref o), (4, .int (nI i))] [] h Q) : ex_W G 10 mc ms M_L_law 136 [(0, .ref s), (1, .ref x), (2, .ref (x + 892)), (3, .ref o), (4, .int (nI i))] [] h Q := by
  refine ex_aload_n ok_L_law (mL0 25 rfl) rfl ?_
  refine ex_aload_n ok_L_law (mL0 26 rfl) rfl ?_
  refine ex_iload ok_L_law (mL0 27 rfl) rfl ?_
  refine ex_iconst ok_L_law (mL0 28 rfl) ?_
  refine ex_iadd ok_L_law (mL0 29 rfl) ?_
  refine ex_top (w := nI (i + 1)) (nI_add _ 1) ?_
  refine lw_ld ok_L_law (mL0 30 rfl) w.2.2.2.2.1.1 w.2.2.2.2.1.2 hL (by omega) (w.2.2.2.2.2 (i + 1) (by omega)) ?_
  refine ex_aload_n ok_L_law (mL0 31 rfl) rfl ?_
  refine ex_iload ok_L_law (mL0 32 rfl) rfl ?_
  refine ex_iconst ok_L_law (mL0 33 rfl) ?_
  refine ex_iadd ok_L_law (mL0 34 rfl) ?_
  refine ex_top (w := nI (i + 2)) (nI_add _ 2) ?_
  refine lw_ld ok_L_law (mL0 35 rfl) w.2.2.2.2.1.1 w.2.2.2.2.1.2 hL (by omega) (w.2.2.2.2.2 (i + 2) (by omega)) ?_
  refine ex_aload_n ok_L_law (mL0 36 rfl) rfl ?_
  refine ex_iload ok_L_law (mL0 37 rfl) rfl ?_
  refine ex_iconst ok_L_law (mL0 38 rfl) ?_
  refine ex_iadd ok_L_law (mL0 39 rfl) ?_
  refine ex_top (w := nI (i + 3)) (nI_add _ 3) ?_
  refine lw_ld ok_L_law (mL0 40 rfl) w.2.2.2.2.1.1 w.2.2.2.2.1.2 hL (by omega) (w.2.2.2.2.2 (i + 3) (by omega)) ?_
  refine ex_aload_n ok_L_law (mL0 41 rfl) rfl ?_
  refine ex_callSHs (As := [_, _, _, _, _]) ok_L_law (mL0 42 rfl) rfl (l_begin hst w) rfl rfl rfl (by decide) (Nat.le_of_ble_eq_true rfl) ⟨hmc, hms⟩ (fun z1 h1 hl => ?_)
  obtain ⟨⟨k1, rfl⟩, w1⟩ := hl
  refine ex_istore ok_L_law (mL0 43 rfl) ?_
  refine ex_aload_n ok_L_law (mL0 44 rfl) rfl ?_
  refine ex_aload_n ok_L_law (mL0 45 rfl) rfl ?_
  refine ex_iload ok_L_law (mL0 46 rfl) rfl ?_
  refine ex_iconst ok_L_law (mL0 47 rfl) ?_
  refine ex_iadd ok_L_law (mL0 48 rfl) ?_
  refine ex_top (w := nI (i + 1)) (nI_add _ 1) ?_
  refine lw_ld ok_L_law (mL0 49 rfl) w1.2.2.2.2.1.1 w1.2.2.2.2.1.2 hL (by omega) (w1.2.2.2.2.2 (i + 1) (by omega)) ?_
  refine ex_aload_n ok_L_law (mL0 50 rfl) rfl ?_
  refine ex_iload ok_L_law (mL0 51 rfl) rfl ?_
  refine ex_iconst ok_L_law (mL0 52 rfl) ?_
  refine ex_iadd ok_L_law (mL0 53 rfl) ?_
  refine ex_top (w := nI (i + 2)) (nI_add _ 2) ?_
  refine lw_ld ok_L_law (mL0 54 rfl) w1.2.2.2.2.1.1 w1.2.2.2.2.1.2 hL (by omega) (w1.2.2.2.2.2 (i + 2) (by omega)) ?_
  refine ex_aload_n ok_L_law (mL0 55 rfl) rfl ?_
  refine ex_iload ok_L_law (mL0 56 rfl) rfl ?_
  refine ex_iconst ok_L_law (mL0 57 rfl) ?_
  refine ex_iadd ok_L_law (mL0 58 rfl) ?_
  refine ex_top (w := nI (i + 3)) (nI_add _ 3) ?_
  refine lw_ld ok_L_law (mL0 59 rfl) w1.2.2.2.2.1.1 w1.2.2.2.2.1.2 hL (by omega) (w1.2.2.2.2.2 (i + 3) (by omega)) ?_
  refine sm_V (As := [_, _, _]) ok_L_law (mL1 0 rfl) rfl (s_X12_begin hst w1.2.1) rfl (fk (x := x + 892) (a := 0) (MI_s w1.2.1) 0 rfl) rfl rfl (by decide) (by decide) (Nat.le_of_ble_eq_true rfl) ⟨Nat.zero_le _, Nat.zero_le _⟩ SM_no (fun z2 h2 hm => ?_)
  obtain ⟨v2, e2, p2, I2⟩ := hm
  cases e2
  obtain ⟨k2, rfl⟩ := p2
  have w2 := LB_m w1 I2
  refine ex_istore ok_L_law (mL1 1 rfl) ?_
  refine ex_goto (tgt := 1006) ok_L_law (mL1 2 rfl) rfl ?_
  exact ex_ls (ls' := [(0, .ref s), (1, .ref x), (2, .ref (x + 892)), (3, .ref o), (4, .int (nI i))]) ⟨rfl, rfl, rfl, rfl, rfl, trivial⟩ (hq _ w2)
theorem w_propose {G : GE} (hst : (ge_l G).stackTraces = false) {x o s L i mc ms : Nat} {h : GT} {Q : RT → GT → Prop} {xs u d : Nat → Int32} (hL : L ≤ 2048) (hi : i + 4 ≤ L) (w : LB h x o s L xs u d) (hmc : 4 ≤ mc) (hms : 24 ≤ ms) (hq : ∀ h, LB h x o s L xs u d → ex_W G 10 (mc - 4) (ms - 24) M_L_law 1006 [(0, .ref s), (1, .ref x), (2, .ref (x + 892)), (3, .ref o), (4, .int (nI i))] [] h Q) : ex_W G 10 mc ms M_L_law 188 [(0, .ref s), (1, .ref x), (2, .ref (x + 892)), (3, .ref o), (4, .int (nI i))] [] h Q := by
  refine ex_aload_n ok_L_law (mL1 3 rfl) rfl ?_
  refine ex_aload_n ok_L_law (mL1 4 rfl) rfl ?_
  refine ex_iload ok_L_law (mL1 5 rfl) rfl ?_
  refine ex_iconst ok_L_law (mL1 6 rfl) ?_
  refine ex_iadd ok_L_law (mL1 7 rfl) ?_
  refine ex_top (w := nI (i + 1)) (nI_add _ 1) ?_
  refine lw_ld ok_L_law (mL1 8 rfl) w.2.2.2.2.1.1 w.2.2.2.2.1.2 hL (by omega) (w.2.2.2.2.2 (i + 1) (by omega)) ?_
  refine ex_aload_n ok_L_law (mL1 9 rfl) rfl ?_
  refine ex_iload ok_L_law (mL1 10 rfl) rfl ?_
  refine ex_iconst ok_L_law (mL1 11 rfl) ?_
  refine ex_iadd ok_L_law (mL1 12 rfl) ?_
  refine ex_top (w := nI (i + 2)) (nI_add _ 2) ?_
  refine lw_ld ok_L_law (mL1 13 rfl) w.2.2.2.2.1.1 w.2.2.2.2.1.2 hL (by omega) (w.2.2.2.2.2 (i + 2) (by omega)) ?_
  refine ex_aload_n ok_L_law (mL1 14 rfl) rfl ?_
  refine ex_callSHs (As := [_, _, _, _]) ok_L_law (mL1 15 rfl) rfl (l_propose hst w) rfl rfl rfl (by decide) (Nat.le_of_ble_eq_true rfl) ⟨hmc, hms⟩ (fun z1 h1 hl => ?_)
  obtain ⟨⟨k1, rfl⟩, w1⟩ := hl
  refine ex_istore ok_L_law (mL1 16 rfl) ?_
  refine ex_aload_n ok_L_law (mL1 17 rfl) rfl ?_
  refine ex_aload_n ok_L_law (mL1 18 rfl) rfl ?_
  refine ex_iload ok_L_law (mL1 19 rfl) rfl ?_
  refine ex_iconst ok_L_law (mL1 20 rfl) ?_
  refine ex_iadd ok_L_law (mL1 21 rfl) ?_
  refine ex_top (w := nI (i + 1)) (nI_add _ 1) ?_
  refine lw_ld ok_L_law (mL1 22 rfl) w1.2.2.2.2.1.1 w1.2.2.2.2.1.2 hL (by omega) (w1.2.2.2.2.2 (i + 1) (by omega)) ?_
  refine ex_aload_n ok_L_law (mL1 23 rfl) rfl ?_
  refine ex_iload ok_L_law (mL1 24 rfl) rfl ?_
  refine ex_iconst ok_L_law (mL1 25 rfl) ?_
  refine ex_iadd ok_L_law (mL1 26 rfl) ?_
  refine ex_top (w := nI (i + 2)) (nI_add _ 2) ?_
  refine lw_ld ok_L_law (mL1 27 rfl) w1.2.2.2.2.1.1 w1.2.2.2.2.1.2 hL (by omega) (w1.2.2.2.2.2 (i + 2) (by omega)) ?_
  refine sm_V (As := [_, _]) ok_L_law (mL1 28 rfl) rfl (s_X12_propose hst w1.2.1) rfl (fk (x := x + 892) (a := 0) (MI_s w1.2.1) 0 rfl) rfl rfl (by decide) (by decide) (Nat.le_of_ble_eq_true rfl) ⟨Nat.zero_le _, Nat.zero_le _⟩ SM_no (fun z2 h2 hm => ?_)
  obtain ⟨v2, e2, p2, I2⟩ := hm
  cases e2
  obtain ⟨k2, rfl⟩ := p2
  have w2 := LB_m w1 I2
  refine ex_istore ok_L_law (mL1 29 rfl) ?_
  refine ex_goto (tgt := 1006) ok_L_law (mL1 30 rfl) rfl ?_
  exact ex_ls (ls' := [(0, .ref s), (1, .ref x), (2, .ref (x + 892)), (3, .ref o), (4, .int (nI i))]) ⟨rfl, rfl, rfl, rfl, rfl, trivial⟩ (hq _ w2)
theorem w_collect {G : GE} (hst : (ge_l G).stackTraces = false) {x o s L i mc ms : Nat} {h : GT} {Q : RT → GT → Prop} {xs u d : Nat → Int32} (hL : L ≤ 2048) (hi : i + 4 ≤ L) (w : LB h x o s L xs u d) (hmc : 4 ≤ mc) (hms : 24 ≤ ms) (hq : ∀ h, LB h x o s L xs u d → ex_W G 10 (mc - 4) (ms - 24) M_L_law 1006 [(0, .ref s), (1, .ref x), (2, .ref (x + 892)), (3, .ref o), (4, .int (nI i))] [] h Q) : ex_W G 10 mc ms M_L_law 228 [(0, .ref s), (1, .ref x), (2, .ref (x + 892)), (3, .ref o), (4, .int (nI i))] [] h Q := by
  refine ex_aload_n ok_L_law (mL1 31 rfl) rfl ?_
  refine ex_aload_n ok_L_law (mL1 32 rfl) rfl ?_
  refine ex_iload ok_L_law (mL1 33 rfl) rfl ?_
  refine ex_iconst ok_L_law (mL1 34 rfl) ?_
  refine ex_iadd ok_L_law (mL1 35 rfl) ?_
  refine ex_top (w := nI (i + 1)) (nI_add _ 1) ?_
  refine lw_ld ok_L_law (mL1 36 rfl) w.2.2.2.2.1.1 w.2.2.2.2.1.2 hL (by omega) (w.2.2.2.2.2 (i + 1) (by omega)) ?_
  refine ex_aload_n ok_L_law (mL1 37 rfl) rfl ?_
  refine ex_callSHs (As := [_, _, _]) ok_L_law (mL1 38 rfl) rfl (l_collect hst w) rfl rfl rfl (by decide) (Nat.le_of_ble_eq_true rfl) ⟨hmc, hms⟩ (fun z1 h1 hl => ?_)
  obtain ⟨⟨k1, rfl⟩, w1⟩ := hl
  refine ex_istore ok_L_law (mL1 39 rfl) ?_
  refine ex_aload_n ok_L_law (mL1 40 rfl) rfl ?_
  refine ex_aload_n ok_L_law (mL1 41 rfl) rfl ?_
  refine ex_iload ok_L_law (mL1 42 rfl) rfl ?_
  refine ex_iconst ok_L_law (mL1 43 rfl) ?_
  refine ex_iadd ok_L_law (mL1 44 rfl) ?_
  refine ex_top (w := nI (i + 1)) (nI_add _ 1) ?_
  refine lw_ld ok_L_law (mL1 45 rfl) w1.2.2.2.2.1.1 w1.2.2.2.2.1.2 hL (by omega) (w1.2.2.2.2.2 (i + 1) (by omega)) ?_
  refine sm_V (As := [_]) ok_L_law (mL1 46 rfl) rfl (s_X12_collect hst w1.2.1) rfl (fk (x := x + 892) (a := 0) (MI_s w1.2.1) 0 rfl) rfl rfl (by decide) (by decide) (Nat.le_of_ble_eq_true rfl) ⟨Nat.zero_le _, Nat.zero_le _⟩ SM_no (fun z2 h2 hm => ?_)
  obtain ⟨v2, e2, p2, I2⟩ := hm
  cases e2
  obtain ⟨k2, rfl, -⟩ := p2
  have w2 := LB_m w1 I2
  refine ex_istore ok_L_law (mL1 47 rfl) ?_
  refine ex_goto (tgt := 1006) ok_L_law (mL1 48 rfl) rfl ?_
  exact ex_ls (ls' := [(0, .ref s), (1, .ref x), (2, .ref (x + 892)), (3, .ref o), (4, .int (nI i))]) ⟨rfl, rfl, rfl, rfl, rfl, trivial⟩ (hq _ w2)
theorem w_reform {G : GE} (hst : (ge_l G).stackTraces = false) {x o s L i mc ms : Nat} {h : GT} {Q : RT → GT → Prop} {xs u d : Nat → Int32} (hL : L ≤ 2048) (hi : i + 4 ≤ L) (w : LB h x o s L xs u d) (hmc : 4 ≤ mc) (hms : 24 ≤ ms) (hq : ∀ h, LB h x o s L xs u d → ex_W G 10 (mc - 4) (ms - 24) M_L_law 1006 [(0, .ref s), (1, .ref x), (2, .ref (x + 892)), (3, .ref o), (4, .int (nI i))] [] h Q) : ex_W G 10 mc ms M_L_law 256 [(0, .ref s), (1, .ref x), (2, .ref (x + 892)), (3, .ref o), (4, .int (nI i))] [] h Q := by
  refine ex_aload_n ok_L_law (mL1 49 rfl) rfl ?_
  refine ex_aload_n ok_L_law (mL1 50 rfl) rfl ?_
  refine ex_iload ok_L_law (mL1 51 rfl) rfl ?_
  refine ex_iconst ok_L_law (mL1 52 rfl) ?_
  refine ex_iadd ok_L_law (mL1 53 rfl) ?_
  refine ex_top (w := nI (i + 1)) (nI_add _ 1) ?_
  refine lw_ld ok_L_law (mL1 54 rfl) w.2.2.2.2.1.1 w.2.2.2.2.1.2 hL (by omega) (w.2.2.2.2.2 (i + 1) (by omega)) ?_
  refine ex_aload_n ok_L_law (mL1 55 rfl) rfl ?_
  refine ex_iload ok_L_law (mL1 56 rfl) rfl ?_
  refine ex_iconst ok_L_law (mL1 57 rfl) ?_
  refine ex_iadd ok_L_law (mL1 58 rfl) ?_
  refine ex_top (w := nI (i + 2)) (nI_add _ 2) ?_
  refine lw_ld ok_L_law (mL1 59 rfl) w.2.2.2.2.1.1 w.2.2.2.2.1.2 hL (by omega) (w.2.2.2.2.2 (i + 2) (by omega)) ?_
  refine ex_aload_n ok_L_law (mL2 0 rfl) rfl ?_
  refine ex_iload ok_L_law (mL2 1 rfl) rfl ?_
  refine ex_iconst ok_L_law (mL2 2 rfl) ?_
  refine ex_iadd ok_L_law (mL2 3 rfl) ?_
  refine ex_top (w := nI (i + 3)) (nI_add _ 3) ?_
  refine lw_ld ok_L_law (mL2 4 rfl) w.2.2.2.2.1.1 w.2.2.2.2.1.2 hL (by omega) (w.2.2.2.2.2 (i + 3) (by omega)) ?_
  refine ex_aload_n ok_L_law (mL2 5 rfl) rfl ?_
  refine ex_callSHs (As := [_, _, _, _, _]) ok_L_law (mL2 6 rfl) rfl (l_reform hst w) rfl rfl rfl (by decide) (Nat.le_of_ble_eq_true rfl) ⟨hmc, hms⟩ (fun z1 h1 hl => ?_)
  obtain ⟨⟨k1, rfl⟩, w1⟩ := hl
  refine ex_istore ok_L_law (mL2 7 rfl) ?_
  refine ex_aload_n ok_L_law (mL2 8 rfl) rfl ?_
  refine ex_aload_n ok_L_law (mL2 9 rfl) rfl ?_
  refine ex_iload ok_L_law (mL2 10 rfl) rfl ?_
  refine ex_iconst ok_L_law (mL2 11 rfl) ?_
  refine ex_iadd ok_L_law (mL2 12 rfl) ?_
  refine ex_top (w := nI (i + 1)) (nI_add _ 1) ?_
  refine lw_ld ok_L_law (mL2 13 rfl) w1.2.2.2.2.1.1 w1.2.2.2.2.1.2 hL (by omega) (w1.2.2.2.2.2 (i + 1) (by omega)) ?_
  refine ex_aload_n ok_L_law (mL2 14 rfl) rfl ?_
  refine ex_iload ok_L_law (mL2 15 rfl) rfl ?_
  refine ex_iconst ok_L_law (mL2 16 rfl) ?_
  refine ex_iadd ok_L_law (mL2 17 rfl) ?_
  refine ex_top (w := nI (i + 2)) (nI_add _ 2) ?_
  refine lw_ld ok_L_law (mL2 18 rfl) w1.2.2.2.2.1.1 w1.2.2.2.2.1.2 hL (by omega) (w1.2.2.2.2.2 (i + 2) (by omega)) ?_
  refine ex_aload_n ok_L_law (mL2 19 rfl) rfl ?_
  refine ex_iload ok_L_law (mL2 20 rfl) rfl ?_
  refine ex_iconst ok_L_law (mL2 21 rfl) ?_
  refine ex_iadd ok_L_law (mL2 22 rfl) ?_
  refine ex_top (w := nI (i + 3)) (nI_add _ 3) ?_
  refine lw_ld ok_L_law (mL2 23 rfl) w1.2.2.2.2.1.1 w1.2.2.2.2.1.2 hL (by omega) (w1.2.2.2.2.2 (i + 3) (by omega)) ?_
  refine sm_V (As := [_, _, _]) ok_L_law (mL2 24 rfl) rfl (s_X12_reform hst w1.2.1) rfl (fk (x := x + 892) (a := 0) (MI_s w1.2.1) 0 rfl) rfl rfl (by decide) (by decide) (Nat.le_of_ble_eq_true rfl) ⟨Nat.zero_le _, Nat.zero_le _⟩ SM_no (fun z2 h2 hm => ?_)
  obtain ⟨v2, e2, p2, I2⟩ := hm
  cases e2
  obtain ⟨k2, rfl⟩ := p2
  have w2 := LB_m w1 I2
  refine ex_istore ok_L_law (mL2 25 rfl) ?_
  refine ex_goto (tgt := 1006) ok_L_law (mL2 26 rfl) rfl ?_
  exact ex_ls (ls' := [(0, .ref s), (1, .ref x), (2, .ref (x + 892)), (3, .ref o), (4, .int (nI i))]) ⟨rfl, rfl, rfl, rfl, rfl, trivial⟩ (hq _ w2)
theorem w_again {G : GE} (hst : (ge_l G).stackTraces = false) {x o s L i mc ms : Nat} {h : GT} {Q : RT → GT → Prop} {xs u d : Nat → Int32} (hL : L ≤ 2048) (hi : i + 4 ≤ L) (w : LB h x o s L xs u d) (hmc : 4 ≤ mc) (hms : 24 ≤ ms) (hq : ∀ h, LB h x o s L xs u d → ex_W G 10 (mc - 4) (ms - 24) M_L_law 1006 [(0, .ref s), (1, .ref x), (2, .ref (x + 892)), (3, .ref o), (4, .int (nI i))] [] h Q) : ex_W G 10 mc ms M_L_law 308 [(0, .ref s), (1, .ref x), (2, .ref (x + 892)), (3, .ref o), (4, .int (nI i))] [] h Q := by
  refine ex_aload_n ok_L_law (mL2 27 rfl) rfl ?_
  refine ex_aload_n ok_L_law (mL2 28 rfl) rfl ?_
  refine ex_iload ok_L_law (mL2 29 rfl) rfl ?_
  refine ex_iconst ok_L_law (mL2 30 rfl) ?_
  refine ex_iadd ok_L_law (mL2 31 rfl) ?_
  refine ex_top (w := nI (i + 1)) (nI_add _ 1) ?_
  refine lw_ld ok_L_law (mL2 32 rfl) w.2.2.2.2.1.1 w.2.2.2.2.1.2 hL (by omega) (w.2.2.2.2.2 (i + 1) (by omega)) ?_
  refine ex_aload_n ok_L_law (mL2 33 rfl) rfl ?_
  refine ex_callSHs (As := [_, _, _]) ok_L_law (mL2 34 rfl) rfl (l_again hst w) rfl rfl rfl (by decide) (Nat.le_of_ble_eq_true rfl) ⟨hmc, hms⟩ (fun z1 h1 hl => ?_)
  obtain ⟨⟨k1, rfl⟩, w1⟩ := hl
  refine ex_istore ok_L_law (mL2 35 rfl) ?_
  refine ex_aload_n ok_L_law (mL2 36 rfl) rfl ?_
  refine ex_aload_n ok_L_law (mL2 37 rfl) rfl ?_
  refine ex_iload ok_L_law (mL2 38 rfl) rfl ?_
  refine ex_iconst ok_L_law (mL2 39 rfl) ?_
  refine ex_iadd ok_L_law (mL2 40 rfl) ?_
  refine ex_top (w := nI (i + 1)) (nI_add _ 1) ?_
  refine lw_ld ok_L_law (mL2 41 rfl) w1.2.2.2.2.1.1 w1.2.2.2.2.1.2 hL (by omega) (w1.2.2.2.2.2 (i + 1) (by omega)) ?_
  refine sm_V (As := [_]) ok_L_law (mL2 42 rfl) rfl (s_X12_again hst w1.2.1) rfl (fk (x := x + 892) (a := 0) (MI_s w1.2.1) 0 rfl) rfl rfl (by decide) (by decide) (Nat.le_of_ble_eq_true rfl) ⟨Nat.zero_le _, Nat.zero_le _⟩ SM_no (fun z2 h2 hm => ?_)
  obtain ⟨v2, e2, p2, I2⟩ := hm
  cases e2
  obtain ⟨k2, rfl⟩ := p2
  have w2 := LB_m w1 I2
  refine ex_istore ok_L_law (mL2 43 rfl) ?_
  refine ex_goto (tgt := 1006) ok_L_law (mL2 44 rfl) rfl ?_
  exact ex_ls (ls' := [(0, .ref s), (1, .ref x), (2, .ref (x + 892)), (3, .ref o), (4, .int (nI i))]) ⟨rfl, rfl, rfl, rfl, rfl, trivial⟩ (hq _ w2)
theorem w_deliver {G : GE} (hst : (ge_l G).stackTraces = false) {x o s L i mc ms : Nat} {h : GT} {Q : RT → GT → Prop} {xs u d : Nat → Int32} (hL : L ≤ 2048) (hi : i + 4 ≤ L) (w : LB h x o s L xs u d) (hmc : 4 ≤ mc) (hms : 24 ≤ ms) (hq : ∀ h, LB h x o s L xs u d → ex_W G 10 (mc - 4) (ms - 24) M_L_law 1006 [(0, .ref s), (1, .ref x), (2, .ref (x + 892)), (3, .ref o), (4, .int (nI i))] [] h Q) : ex_W G 10 mc ms M_L_law 336 [(0, .ref s), (1, .ref x), (2, .ref (x + 892)), (3, .ref o), (4, .int (nI i))] [] h Q := by
  refine ex_aload_n ok_L_law (mL2 45 rfl) rfl ?_
  refine ex_aload_n ok_L_law (mL2 46 rfl) rfl ?_
  refine ex_iload ok_L_law (mL2 47 rfl) rfl ?_
  refine ex_iconst ok_L_law (mL2 48 rfl) ?_
  refine ex_iadd ok_L_law (mL2 49 rfl) ?_
  refine ex_top (w := nI (i + 1)) (nI_add _ 1) ?_
  refine lw_ld ok_L_law (mL2 50 rfl) w.2.2.2.2.1.1 w.2.2.2.2.1.2 hL (by omega) (w.2.2.2.2.2 (i + 1) (by omega)) ?_
  refine ex_aload_n ok_L_law (mL2 51 rfl) rfl ?_
  refine ex_callSHs (As := [_, _, _]) ok_L_law (mL2 52 rfl) rfl (l_deliver hst w) rfl rfl rfl (by decide) (Nat.le_of_ble_eq_true rfl) ⟨hmc, hms⟩ (fun z1 h1 hl => ?_)
  obtain ⟨⟨k1, rfl⟩, w1⟩ := hl
  refine ex_istore ok_L_law (mL2 53 rfl) ?_
  refine ex_aload_n ok_L_law (mL2 54 rfl) rfl ?_
  refine ex_aload_n ok_L_law (mL2 55 rfl) rfl ?_
  refine ex_iload ok_L_law (mL2 56 rfl) rfl ?_
  refine ex_iconst ok_L_law (mL2 57 rfl) ?_
  refine ex_iadd ok_L_law (mL2 58 rfl) ?_
  refine ex_top (w := nI (i + 1)) (nI_add _ 1) ?_
  refine lw_ld ok_L_law (mL2 59 rfl) w1.2.2.2.2.1.1 w1.2.2.2.2.1.2 hL (by omega) (w1.2.2.2.2.2 (i + 1) (by omega)) ?_
  refine sm_V (As := [_]) ok_L_law (mL3 0 rfl) rfl (s_X12_deliver hst w1.2.1) rfl (fk (x := x + 892) (a := 0) (MI_s w1.2.1) 0 rfl) rfl rfl (by decide) (by decide) (Nat.le_of_ble_eq_true rfl) ⟨Nat.zero_le _, Nat.zero_le _⟩ SM_no (fun z2 h2 hm => ?_)
  obtain ⟨v2, e2, p2, I2⟩ := hm
  cases e2
  obtain ⟨k2, rfl⟩ := p2
  have w2 := LB_m w1 I2
  refine ex_istore ok_L_law (mL3 1 rfl) ?_
  refine ex_goto (tgt := 1006) ok_L_law (mL3 2 rfl) rfl ?_
  exact ex_ls (ls' := [(0, .ref s), (1, .ref x), (2, .ref (x + 892)), (3, .ref o), (4, .int (nI i))]) ⟨rfl, rfl, rfl, rfl, rfl, trivial⟩ (hq _ w2)
theorem w_run {G : GE} (hst : (ge_l G).stackTraces = false) {x o s L i mc ms : Nat} {h : GT} {Q : RT → GT → Prop} {xs u d : Nat → Int32} (hL : L ≤ 2048) (hi : i + 4 ≤ L) (w : LB h x o s L xs u d) (hmc : 4 ≤ mc) (hms : 24 ≤ ms) (hq : ∀ h, LB h x o s L xs u d → ex_W G 10 (mc - 4) (ms - 24) M_L_law 1006 [(0, .ref s), (1, .ref x), (2, .ref (x + 892)), (3, .ref o), (4, .int (nI i))] [] h Q) : ex_W G 10 mc ms M_L_law 364 [(0, .ref s), (1, .ref x), (2, .ref (x + 892)), (3, .ref o), (4, .int (nI i))] [] h Q := by
  refine ex_aload_n ok_L_law (mL3 3 rfl) rfl ?_
  refine ex_aload_n ok_L_law (mL3 4 rfl) rfl ?_
  refine ex_iload ok_L_law (mL3 5 rfl) rfl ?_
  refine ex_iconst ok_L_law (mL3 6 rfl) ?_
  refine ex_iadd ok_L_law (mL3 7 rfl) ?_
  refine ex_top (w := nI (i + 1)) (nI_add _ 1) ?_
  refine lw_ld ok_L_law (mL3 8 rfl) w.2.2.2.2.1.1 w.2.2.2.2.1.2 hL (by omega) (w.2.2.2.2.2 (i + 1) (by omega)) ?_
  refine ex_aload_n ok_L_law (mL3 9 rfl) rfl ?_
  refine ex_callSHs (As := [_, _, _]) ok_L_law (mL3 10 rfl) rfl (l_run hst w) rfl rfl rfl (by decide) (Nat.le_of_ble_eq_true rfl) ⟨hmc, hms⟩ (fun z1 h1 hl => ?_)
  obtain ⟨⟨k1, rfl⟩, w1⟩ := hl
  refine ex_istore ok_L_law (mL3 11 rfl) ?_
  refine ex_aload_n ok_L_law (mL3 12 rfl) rfl ?_
  refine ex_aload_n ok_L_law (mL3 13 rfl) rfl ?_
  refine ex_iload ok_L_law (mL3 14 rfl) rfl ?_
  refine ex_iconst ok_L_law (mL3 15 rfl) ?_
  refine ex_iadd ok_L_law (mL3 16 rfl) ?_
  refine ex_top (w := nI (i + 1)) (nI_add _ 1) ?_
  refine lw_ld ok_L_law (mL3 17 rfl) w1.2.2.2.2.1.1 w1.2.2.2.2.1.2 hL (by omega) (w1.2.2.2.2.2 (i + 1) (by omega)) ?_
  refine sm_V (As := [_]) ok_L_law (mL3 18 rfl) rfl (s_X12_run hst w1.2.1) rfl (fk (x := x + 892) (a := 0) (MI_s w1.2.1) 0 rfl) rfl rfl (by decide) (by decide) (Nat.le_of_ble_eq_true rfl) ⟨Nat.zero_le _, Nat.zero_le _⟩ SM_no (fun z2 h2 hm => ?_)
  obtain ⟨v2, e2, p2, I2⟩ := hm
  cases e2
  obtain ⟨k2, rfl⟩ := p2
  have w2 := LB_m w1 I2
  refine ex_istore ok_L_law (mL3 19 rfl) ?_
  refine ex_goto (tgt := 1006) ok_L_law (mL3 20 rfl) rfl ?_
  exact ex_ls (ls' := [(0, .ref s), (1, .ref x), (2, .ref (x + 892)), (3, .ref o), (4, .int (nI i))]) ⟨rfl, rfl, rfl, rfl, rfl, trivial⟩ (hq _ w2)
theorem w_lose {G : GE} (hst : (ge_l G).stackTraces = false) {x o s L i mc ms : Nat} {h : GT} {Q : RT → GT → Prop} {xs u d : Nat → Int32} (hL : L ≤ 2048) (hi : i + 4 ≤ L) (w : LB h x o s L xs u d) (hmc : 4 ≤ mc) (hms : 24 ≤ ms) (hq : ∀ h, LB h x o s L xs u d → ex_W G 10 (mc - 4) (ms - 24) M_L_law 1006 [(0, .ref s), (1, .ref x), (2, .ref (x + 892)), (3, .ref o), (4, .int (nI i))] [] h Q) : ex_W G 10 mc ms M_L_law 392 [(0, .ref s), (1, .ref x), (2, .ref (x + 892)), (3, .ref o), (4, .int (nI i))] [] h Q := by
  refine ex_aload_n ok_L_law (mL3 21 rfl) rfl ?_
  refine ex_aload_n ok_L_law (mL3 22 rfl) rfl ?_
  refine ex_iload ok_L_law (mL3 23 rfl) rfl ?_
  refine ex_iconst ok_L_law (mL3 24 rfl) ?_
  refine ex_iadd ok_L_law (mL3 25 rfl) ?_
  refine ex_top (w := nI (i + 1)) (nI_add _ 1) ?_
  refine lw_ld ok_L_law (mL3 26 rfl) w.2.2.2.2.1.1 w.2.2.2.2.1.2 hL (by omega) (w.2.2.2.2.2 (i + 1) (by omega)) ?_
  refine ex_aload_n ok_L_law (mL3 27 rfl) rfl ?_
  refine ex_callSHs (As := [_, _, _]) ok_L_law (mL3 28 rfl) rfl (l_lose hst w) rfl rfl rfl (by decide) (Nat.le_of_ble_eq_true rfl) ⟨hmc, hms⟩ (fun z1 h1 hl => ?_)
  obtain ⟨⟨k1, rfl⟩, w1⟩ := hl
  refine ex_istore ok_L_law (mL3 29 rfl) ?_
  refine ex_aload_n ok_L_law (mL3 30 rfl) rfl ?_
  refine ex_aload_n ok_L_law (mL3 31 rfl) rfl ?_
  refine ex_iload ok_L_law (mL3 32 rfl) rfl ?_
  refine ex_iconst ok_L_law (mL3 33 rfl) ?_
  refine ex_iadd ok_L_law (mL3 34 rfl) ?_
  refine ex_top (w := nI (i + 1)) (nI_add _ 1) ?_
  refine lw_ld ok_L_law (mL3 35 rfl) w1.2.2.2.2.1.1 w1.2.2.2.2.1.2 hL (by omega) (w1.2.2.2.2.2 (i + 1) (by omega)) ?_
  refine sm_V (As := [_]) ok_L_law (mL3 36 rfl) rfl (s_X12_lose hst w1.2.1) rfl (fk (x := x + 892) (a := 0) (MI_s w1.2.1) 0 rfl) rfl rfl (by decide) (by decide) (Nat.le_of_ble_eq_true rfl) ⟨Nat.zero_le _, Nat.zero_le _⟩ SM_no (fun z2 h2 hm => ?_)
  obtain ⟨v2, e2, p2, I2⟩ := hm
  cases e2
  obtain ⟨k2, rfl⟩ := p2
  have w2 := LB_m w1 I2
  refine ex_istore ok_L_law (mL3 37 rfl) ?_
  refine ex_goto (tgt := 1006) ok_L_law (mL3 38 rfl) rfl ?_
  exact ex_ls (ls' := [(0, .ref s), (1, .ref x), (2, .ref (x + 892)), (3, .ref o), (4, .int (nI i))]) ⟨rfl, rfl, rfl, rfl, rfl, trivial⟩ (hq _ w2)
theorem w_twice {G : GE} (hst : (ge_l G).stackTraces = false) {x o s L i mc ms : Nat} {h : GT} {Q : RT → GT → Prop} {xs u d : Nat → Int32} (hL : L ≤ 2048) (hi : i + 4 ≤ L) (w : LB h x o s L xs u d) (hmc : 4 ≤ mc) (hms : 24 ≤ ms) (hq : ∀ h, LB h x o s L xs u d → ex_W G 10 (mc - 4) (ms - 24) M_L_law 1006 [(0, .ref s), (1, .ref x), (2, .ref (x + 892)), (3, .ref o), (4, .int (nI i))] [] h Q) : ex_W G 10 mc ms M_L_law 420 [(0, .ref s), (1, .ref x), (2, .ref (x + 892)), (3, .ref o), (4, .int (nI i))] [] h Q := by
  refine ex_aload_n ok_L_law (mL3 39 rfl) rfl ?_
  refine ex_aload_n ok_L_law (mL3 40 rfl) rfl ?_
  refine ex_iload ok_L_law (mL3 41 rfl) rfl ?_
  refine ex_iconst ok_L_law (mL3 42 rfl) ?_
  refine ex_iadd ok_L_law (mL3 43 rfl) ?_
  refine ex_top (w := nI (i + 1)) (nI_add _ 1) ?_
  refine lw_ld ok_L_law (mL3 44 rfl) w.2.2.2.2.1.1 w.2.2.2.2.1.2 hL (by omega) (w.2.2.2.2.2 (i + 1) (by omega)) ?_
  refine ex_aload_n ok_L_law (mL3 45 rfl) rfl ?_
  refine ex_callSHs (As := [_, _, _]) ok_L_law (mL3 46 rfl) rfl (l_twice hst w) rfl rfl rfl (by decide) (Nat.le_of_ble_eq_true rfl) ⟨hmc, hms⟩ (fun z1 h1 hl => ?_)
  obtain ⟨⟨k1, rfl⟩, w1⟩ := hl
  refine ex_istore ok_L_law (mL3 47 rfl) ?_
  refine ex_aload_n ok_L_law (mL3 48 rfl) rfl ?_
  refine ex_aload_n ok_L_law (mL3 49 rfl) rfl ?_
  refine ex_iload ok_L_law (mL3 50 rfl) rfl ?_
  refine ex_iconst ok_L_law (mL3 51 rfl) ?_
  refine ex_iadd ok_L_law (mL3 52 rfl) ?_
  refine ex_top (w := nI (i + 1)) (nI_add _ 1) ?_
  refine lw_ld ok_L_law (mL3 53 rfl) w1.2.2.2.2.1.1 w1.2.2.2.2.1.2 hL (by omega) (w1.2.2.2.2.2 (i + 1) (by omega)) ?_
  refine sm_V (As := [_]) ok_L_law (mL3 54 rfl) rfl (s_X12_twice hst w1.2.1) rfl (fk (x := x + 892) (a := 0) (MI_s w1.2.1) 0 rfl) rfl rfl (by decide) (by decide) (Nat.le_of_ble_eq_true rfl) ⟨Nat.zero_le _, Nat.zero_le _⟩ SM_no (fun z2 h2 hm => ?_)
  obtain ⟨v2, e2, p2, I2⟩ := hm
  cases e2
  obtain ⟨k2, rfl⟩ := p2
  have w2 := LB_m w1 I2
  refine ex_istore ok_L_law (mL3 55 rfl) ?_
  refine ex_goto (tgt := 1006) ok_L_law (mL3 56 rfl) rfl ?_
  exact ex_ls (ls' := [(0, .ref s), (1, .ref x), (2, .ref (x + 892)), (3, .ref o), (4, .int (nI i))]) ⟨rfl, rfl, rfl, rfl, rfl, trivial⟩ (hq _ w2)
theorem w_message {G : GE} (hst : (ge_l G).stackTraces = false) {x o s L i mc ms : Nat} {h : GT} {Q : RT → GT → Prop} {xs u d : Nat → Int32} (hL : L ≤ 2048) (hi : i + 4 ≤ L) (w : LB h x o s L xs u d) (hmc : 4 ≤ mc) (hms : 24 ≤ ms) (hq : ∀ h, LB h x o s L xs u d → ex_W G 10 (mc - 4) (ms - 24) M_L_law 1006 [(0, .ref s), (1, .ref x), (2, .ref (x + 892)), (3, .ref o), (4, .int (nI i))] [] h Q) : ex_W G 10 mc ms M_L_law 551 [(0, .ref s), (1, .ref x), (2, .ref (x + 892)), (3, .ref o), (4, .int (nI i))] [] h Q := by
  refine ex_aload_n ok_L_law (mL5 3 rfl) rfl ?_
  refine ex_aload_n ok_L_law (mL5 4 rfl) rfl ?_
  refine ex_iload ok_L_law (mL5 5 rfl) rfl ?_
  refine ex_iconst ok_L_law (mL5 6 rfl) ?_
  refine ex_iadd ok_L_law (mL5 7 rfl) ?_
  refine ex_top (w := nI (i + 1)) (nI_add _ 1) ?_
  refine lw_ld ok_L_law (mL5 8 rfl) w.2.2.2.2.1.1 w.2.2.2.2.1.2 hL (by omega) (w.2.2.2.2.2 (i + 1) (by omega)) ?_
  refine ex_aload_n ok_L_law (mL5 9 rfl) rfl ?_
  refine ex_iload ok_L_law (mL5 10 rfl) rfl ?_
  refine ex_iconst ok_L_law (mL5 11 rfl) ?_
  refine ex_iadd ok_L_law (mL5 12 rfl) ?_
  refine ex_top (w := nI (i + 2)) (nI_add _ 2) ?_
  refine lw_ld ok_L_law (mL5 13 rfl) w.2.2.2.2.1.1 w.2.2.2.2.1.2 hL (by omega) (w.2.2.2.2.2 (i + 2) (by omega)) ?_
  refine ex_aload_n ok_L_law (mL5 14 rfl) rfl ?_
  refine ex_callSHs (As := [_, _, _, _]) ok_L_law (mL5 15 rfl) rfl (l_message hst w) rfl rfl rfl (by decide) (Nat.le_of_ble_eq_true rfl) ⟨hmc, hms⟩ (fun z1 h1 hl => ?_)
  obtain ⟨⟨k1, rfl⟩, w1⟩ := hl
  refine ex_istore ok_L_law (mL5 16 rfl) ?_
  refine ex_aload_n ok_L_law (mL5 17 rfl) rfl ?_
  refine ex_aload_n ok_L_law (mL5 18 rfl) rfl ?_
  refine ex_iload ok_L_law (mL5 19 rfl) rfl ?_
  refine ex_iconst ok_L_law (mL5 20 rfl) ?_
  refine ex_iadd ok_L_law (mL5 21 rfl) ?_
  refine ex_top (w := nI (i + 1)) (nI_add _ 1) ?_
  refine lw_ld ok_L_law (mL5 22 rfl) w1.2.2.2.2.1.1 w1.2.2.2.2.1.2 hL (by omega) (w1.2.2.2.2.2 (i + 1) (by omega)) ?_
  refine ex_aload_n ok_L_law (mL5 23 rfl) rfl ?_
  refine ex_iload ok_L_law (mL5 24 rfl) rfl ?_
  refine ex_iconst ok_L_law (mL5 25 rfl) ?_
  refine ex_iadd ok_L_law (mL5 26 rfl) ?_
  refine ex_top (w := nI (i + 2)) (nI_add _ 2) ?_
  refine lw_ld ok_L_law (mL5 27 rfl) w1.2.2.2.2.1.1 w1.2.2.2.2.1.2 hL (by omega) (w1.2.2.2.2.2 (i + 2) (by omega)) ?_
  refine sm_V (As := [_, _]) ok_L_law (mL5 28 rfl) rfl (s_X12_message hst w1.2.1) rfl (fk (x := x + 892) (a := 0) (MI_s w1.2.1) 0 rfl) rfl rfl (by decide) (by decide) (Nat.le_of_ble_eq_true rfl) ⟨Nat.zero_le _, Nat.zero_le _⟩ SM_no (fun z2 h2 hm => ?_)
  obtain ⟨v2, e2, p2, I2⟩ := hm
  cases e2
  obtain ⟨k2, rfl⟩ := p2
  have w2 := LB_m w1 I2
  refine ex_istore ok_L_law (mL5 29 rfl) ?_
  refine ex_goto (tgt := 1006) ok_L_law (mL5 30 rfl) rfl ?_
  exact ex_ls (ls' := [(0, .ref s), (1, .ref x), (2, .ref (x + 892)), (3, .ref o), (4, .int (nI i))]) ⟨rfl, rfl, rfl, rfl, rfl, trivial⟩ (hq _ w2)
theorem w_leader {G : GE} (hst : (ge_l G).stackTraces = false) {x o s L i mc ms : Nat} {h : GT} {Q : RT → GT → Prop} {xs u d : Nat → Int32} (hL : L ≤ 2048) (hi : i + 4 ≤ L) (w : LB h x o s L xs u d) (hmc : 4 ≤ mc) (hms : 24 ≤ ms) (hq : ∀ h, LB h x o s L xs u d → ex_W G 10 (mc - 4) (ms - 24) M_L_law 1006 [(0, .ref s), (1, .ref x), (2, .ref (x + 892)), (3, .ref o), (4, .int (nI i))] [] h Q) : ex_W G 10 mc ms M_L_law 591 [(0, .ref s), (1, .ref x), (2, .ref (x + 892)), (3, .ref o), (4, .int (nI i))] [] h Q := by
  refine ex_aload_n ok_L_law (mL5 31 rfl) rfl ?_
  refine ex_aload_n ok_L_law (mL5 32 rfl) rfl ?_
  refine ex_iload ok_L_law (mL5 33 rfl) rfl ?_
  refine ex_iconst ok_L_law (mL5 34 rfl) ?_
  refine ex_iadd ok_L_law (mL5 35 rfl) ?_
  refine ex_top (w := nI (i + 1)) (nI_add _ 1) ?_
  refine lw_ld ok_L_law (mL5 36 rfl) w.2.2.2.2.1.1 w.2.2.2.2.1.2 hL (by omega) (w.2.2.2.2.2 (i + 1) (by omega)) ?_
  refine ex_aload_n ok_L_law (mL5 37 rfl) rfl ?_
  refine ex_iload ok_L_law (mL5 38 rfl) rfl ?_
  refine ex_iconst ok_L_law (mL5 39 rfl) ?_
  refine ex_iadd ok_L_law (mL5 40 rfl) ?_
  refine ex_top (w := nI (i + 2)) (nI_add _ 2) ?_
  refine lw_ld ok_L_law (mL5 41 rfl) w.2.2.2.2.1.1 w.2.2.2.2.1.2 hL (by omega) (w.2.2.2.2.2 (i + 2) (by omega)) ?_
  refine ex_aload_n ok_L_law (mL5 42 rfl) rfl ?_
  refine ex_callSHs (As := [_, _, _, _]) ok_L_law (mL5 43 rfl) rfl (l_leader hst w) rfl rfl rfl (by decide) (Nat.le_of_ble_eq_true rfl) ⟨hmc, hms⟩ (fun z1 h1 hl => ?_)
  obtain ⟨⟨k1, rfl⟩, w1⟩ := hl
  refine ex_istore ok_L_law (mL5 44 rfl) ?_
  refine ex_aload_n ok_L_law (mL5 45 rfl) rfl ?_
  refine ex_aload_n ok_L_law (mL5 46 rfl) rfl ?_
  refine ex_iload ok_L_law (mL5 47 rfl) rfl ?_
  refine ex_iconst ok_L_law (mL5 48 rfl) ?_
  refine ex_iadd ok_L_law (mL5 49 rfl) ?_
  refine ex_top (w := nI (i + 1)) (nI_add _ 1) ?_
  refine lw_ld ok_L_law (mL5 50 rfl) w1.2.2.2.2.1.1 w1.2.2.2.2.1.2 hL (by omega) (w1.2.2.2.2.2 (i + 1) (by omega)) ?_
  refine ex_aload_n ok_L_law (mL5 51 rfl) rfl ?_
  refine ex_iload ok_L_law (mL5 52 rfl) rfl ?_
  refine ex_iconst ok_L_law (mL5 53 rfl) ?_
  refine ex_iadd ok_L_law (mL5 54 rfl) ?_
  refine ex_top (w := nI (i + 2)) (nI_add _ 2) ?_
  refine lw_ld ok_L_law (mL5 55 rfl) w1.2.2.2.2.1.1 w1.2.2.2.2.1.2 hL (by omega) (w1.2.2.2.2.2 (i + 2) (by omega)) ?_
  refine sm_V (As := [_, _]) ok_L_law (mL5 56 rfl) rfl (s_X12_leader hst w1.2.1) rfl (fk (x := x + 892) (a := 0) (MI_s w1.2.1) 0 rfl) rfl rfl (by decide) (by decide) (Nat.le_of_ble_eq_true rfl) ⟨Nat.zero_le _, Nat.zero_le _⟩ SM_no (fun z2 h2 hm => ?_)
  obtain ⟨v2, e2, p2, I2⟩ := hm
  cases e2
  obtain ⟨k2, rfl⟩ := p2
  have w2 := LB_m w1 I2
  refine ex_istore ok_L_law (mL5 57 rfl) ?_
  refine ex_goto (tgt := 1006) ok_L_law (mL5 58 rfl) rfl ?_
  exact ex_ls (ls' := [(0, .ref s), (1, .ref x), (2, .ref (x + 892)), (3, .ref o), (4, .int (nI i))]) ⟨rfl, rfl, rfl, rfl, rfl, trivial⟩ (hq _ w2)
theorem w_slot {G : GE} (hst : (ge_l G).stackTraces = false) {x o s L i mc ms : Nat} {h : GT} {Q : RT → GT → Prop} {xs u d : Nat → Int32} (hL : L ≤ 2048) (hi : i + 4 ≤ L) (w : LB h x o s L xs u d) (hmc : 4 ≤ mc) (hms : 24 ≤ ms) (hq : ∀ h, LB h x o s L xs u d → ex_W G 10 (mc - 4) (ms - 24) M_L_law 1006 [(0, .ref s), (1, .ref x), (2, .ref (x + 892)), (3, .ref o), (4, .int (nI i))] [] h Q) : ex_W G 10 mc ms M_L_law 631 [(0, .ref s), (1, .ref x), (2, .ref (x + 892)), (3, .ref o), (4, .int (nI i))] [] h Q := by
  refine ex_aload_n ok_L_law (mL5 59 rfl) rfl ?_
  refine ex_aload_n ok_L_law (mL6 0 rfl) rfl ?_
  refine ex_iload ok_L_law (mL6 1 rfl) rfl ?_
  refine ex_iconst ok_L_law (mL6 2 rfl) ?_
  refine ex_iadd ok_L_law (mL6 3 rfl) ?_
  refine ex_top (w := nI (i + 1)) (nI_add _ 1) ?_
  refine lw_ld ok_L_law (mL6 4 rfl) w.2.2.2.2.1.1 w.2.2.2.2.1.2 hL (by omega) (w.2.2.2.2.2 (i + 1) (by omega)) ?_
  refine ex_aload_n ok_L_law (mL6 5 rfl) rfl ?_
  refine ex_iload ok_L_law (mL6 6 rfl) rfl ?_
  refine ex_iconst ok_L_law (mL6 7 rfl) ?_
  refine ex_iadd ok_L_law (mL6 8 rfl) ?_
  refine ex_top (w := nI (i + 2)) (nI_add _ 2) ?_
  refine lw_ld ok_L_law (mL6 9 rfl) w.2.2.2.2.1.1 w.2.2.2.2.1.2 hL (by omega) (w.2.2.2.2.2 (i + 2) (by omega)) ?_
  refine ex_aload_n ok_L_law (mL6 10 rfl) rfl ?_
  refine ex_iload ok_L_law (mL6 11 rfl) rfl ?_
  refine ex_iconst ok_L_law (mL6 12 rfl) ?_
  refine ex_iadd ok_L_law (mL6 13 rfl) ?_
  refine ex_top (w := nI (i + 3)) (nI_add _ 3) ?_
  refine lw_ld ok_L_law (mL6 14 rfl) w.2.2.2.2.1.1 w.2.2.2.2.1.2 hL (by omega) (w.2.2.2.2.2 (i + 3) (by omega)) ?_
  refine ex_aload_n ok_L_law (mL6 15 rfl) rfl ?_
  refine ex_callSHs (As := [_, _, _, _, _]) ok_L_law (mL6 16 rfl) rfl (l_slot hst w) rfl rfl rfl (by decide) (Nat.le_of_ble_eq_true rfl) ⟨hmc, hms⟩ (fun z1 h1 hl => ?_)
  obtain ⟨⟨k1, rfl⟩, w1⟩ := hl
  refine ex_istore ok_L_law (mL6 17 rfl) ?_
  refine ex_aload_n ok_L_law (mL6 18 rfl) rfl ?_
  refine ex_aload_n ok_L_law (mL6 19 rfl) rfl ?_
  refine ex_iload ok_L_law (mL6 20 rfl) rfl ?_
  refine ex_iconst ok_L_law (mL6 21 rfl) ?_
  refine ex_iadd ok_L_law (mL6 22 rfl) ?_
  refine ex_top (w := nI (i + 1)) (nI_add _ 1) ?_
  refine lw_ld ok_L_law (mL6 23 rfl) w1.2.2.2.2.1.1 w1.2.2.2.2.1.2 hL (by omega) (w1.2.2.2.2.2 (i + 1) (by omega)) ?_
  refine ex_aload_n ok_L_law (mL6 24 rfl) rfl ?_
  refine ex_iload ok_L_law (mL6 25 rfl) rfl ?_
  refine ex_iconst ok_L_law (mL6 26 rfl) ?_
  refine ex_iadd ok_L_law (mL6 27 rfl) ?_
  refine ex_top (w := nI (i + 2)) (nI_add _ 2) ?_
  refine lw_ld ok_L_law (mL6 28 rfl) w1.2.2.2.2.1.1 w1.2.2.2.2.1.2 hL (by omega) (w1.2.2.2.2.2 (i + 2) (by omega)) ?_
  refine ex_aload_n ok_L_law (mL6 29 rfl) rfl ?_
  refine ex_iload ok_L_law (mL6 30 rfl) rfl ?_
  refine ex_iconst ok_L_law (mL6 31 rfl) ?_
  refine ex_iadd ok_L_law (mL6 32 rfl) ?_
  refine ex_top (w := nI (i + 3)) (nI_add _ 3) ?_
  refine lw_ld ok_L_law (mL6 33 rfl) w1.2.2.2.2.1.1 w1.2.2.2.2.1.2 hL (by omega) (w1.2.2.2.2.2 (i + 3) (by omega)) ?_
  refine sm_V (As := [_, _, _]) ok_L_law (mL6 34 rfl) rfl (s_X12_slot hst w1.2.1) rfl (fk (x := x + 892) (a := 0) (MI_s w1.2.1) 0 rfl) rfl rfl (by decide) (by decide) (Nat.le_of_ble_eq_true rfl) ⟨Nat.zero_le _, Nat.zero_le _⟩ SM_no (fun z2 h2 hm => ?_)
  obtain ⟨v2, e2, p2, I2⟩ := hm
  cases e2
  obtain ⟨k2, rfl⟩ := p2
  have w2 := LB_m w1 I2
  refine ex_istore ok_L_law (mL6 35 rfl) ?_
  refine ex_goto (tgt := 1006) ok_L_law (mL6 36 rfl) rfl ?_
  exact ex_ls (ls' := [(0, .ref s), (1, .ref x), (2, .ref (x + 892)), (3, .ref o), (4, .int (nI i))]) ⟨rfl, rfl, rfl, rfl, rfl, trivial⟩ (hq _ w2)
theorem w_keeper {G : GE} (hst : (ge_l G).stackTraces = false) {x o s L i mc ms : Nat} {h : GT} {Q : RT → GT → Prop} {xs u d : Nat → Int32} (hL : L ≤ 2048) (hi : i + 4 ≤ L) (w : LB h x o s L xs u d) (hmc : 4 ≤ mc) (hms : 24 ≤ ms) (hq : ∀ h, LB h x o s L xs u d → ex_W G 10 (mc - 4) (ms - 24) M_L_law 1006 [(0, .ref s), (1, .ref x), (2, .ref (x + 892)), (3, .ref o), (4, .int (nI i))] [] h Q) : ex_W G 10 mc ms M_L_law 683 [(0, .ref s), (1, .ref x), (2, .ref (x + 892)), (3, .ref o), (4, .int (nI i))] [] h Q := by
  refine ex_aload_n ok_L_law (mL6 37 rfl) rfl ?_
  refine ex_aload_n ok_L_law (mL6 38 rfl) rfl ?_
  refine ex_iload ok_L_law (mL6 39 rfl) rfl ?_
  refine ex_iconst ok_L_law (mL6 40 rfl) ?_
  refine ex_iadd ok_L_law (mL6 41 rfl) ?_
  refine ex_top (w := nI (i + 1)) (nI_add _ 1) ?_
  refine lw_ld ok_L_law (mL6 42 rfl) w.2.2.2.2.1.1 w.2.2.2.2.1.2 hL (by omega) (w.2.2.2.2.2 (i + 1) (by omega)) ?_
  refine ex_aload_n ok_L_law (mL6 43 rfl) rfl ?_
  refine ex_iload ok_L_law (mL6 44 rfl) rfl ?_
  refine ex_iconst ok_L_law (mL6 45 rfl) ?_
  refine ex_iadd ok_L_law (mL6 46 rfl) ?_
  refine ex_top (w := nI (i + 2)) (nI_add _ 2) ?_
  refine lw_ld ok_L_law (mL6 47 rfl) w.2.2.2.2.1.1 w.2.2.2.2.1.2 hL (by omega) (w.2.2.2.2.2 (i + 2) (by omega)) ?_
  refine ex_aload_n ok_L_law (mL6 48 rfl) rfl ?_
  refine ex_callSHs (As := [_, _, _, _]) ok_L_law (mL6 49 rfl) rfl (l_keeper hst w) rfl rfl rfl (by decide) (Nat.le_of_ble_eq_true rfl) ⟨hmc, hms⟩ (fun z1 h1 hl => ?_)
  obtain ⟨⟨k1, rfl⟩, w1⟩ := hl
  refine ex_istore ok_L_law (mL6 50 rfl) ?_
  refine ex_aload_n ok_L_law (mL6 51 rfl) rfl ?_
  refine ex_aload_n ok_L_law (mL6 52 rfl) rfl ?_
  refine ex_iload ok_L_law (mL6 53 rfl) rfl ?_
  refine ex_iconst ok_L_law (mL6 54 rfl) ?_
  refine ex_iadd ok_L_law (mL6 55 rfl) ?_
  refine ex_top (w := nI (i + 1)) (nI_add _ 1) ?_
  refine lw_ld ok_L_law (mL6 56 rfl) w1.2.2.2.2.1.1 w1.2.2.2.2.1.2 hL (by omega) (w1.2.2.2.2.2 (i + 1) (by omega)) ?_
  refine ex_aload_n ok_L_law (mL6 57 rfl) rfl ?_
  refine ex_iload ok_L_law (mL6 58 rfl) rfl ?_
  refine ex_iconst ok_L_law (mL6 59 rfl) ?_
  refine ex_iadd ok_L_law (mL7 0 rfl) ?_
  refine ex_top (w := nI (i + 2)) (nI_add _ 2) ?_
  refine lw_ld ok_L_law (mL7 1 rfl) w1.2.2.2.2.1.1 w1.2.2.2.2.1.2 hL (by omega) (w1.2.2.2.2.2 (i + 2) (by omega)) ?_
  refine sm_V (As := [_, _]) ok_L_law (mL7 2 rfl) rfl (s_X12_keeper hst w1.2.1) rfl (fk (x := x + 892) (a := 0) (MI_s w1.2.1) 0 rfl) rfl rfl (by decide) (by decide) (Nat.le_of_ble_eq_true rfl) ⟨Nat.zero_le _, Nat.zero_le _⟩ SM_no (fun z2 h2 hm => ?_)
  obtain ⟨v2, e2, p2, I2⟩ := hm
  cases e2
  obtain ⟨k2, rfl⟩ := p2
  have w2 := LB_m w1 I2
  refine ex_istore ok_L_law (mL7 3 rfl) ?_
  refine ex_goto (tgt := 1006) ok_L_law (mL7 4 rfl) rfl ?_
  exact ex_ls (ls' := [(0, .ref s), (1, .ref x), (2, .ref (x + 892)), (3, .ref o), (4, .int (nI i))]) ⟨rfl, rfl, rfl, rfl, rfl, trivial⟩ (hq _ w2)
theorem w_entry {G : GE} (hst : (ge_l G).stackTraces = false) {x o s L i mc ms : Nat} {h : GT} {Q : RT → GT → Prop} {xs u d : Nat → Int32} (hL : L ≤ 2048) (hi : i + 4 ≤ L) (w : LB h x o s L xs u d) (hmc : 4 ≤ mc) (hms : 24 ≤ ms) (hq : ∀ h, LB h x o s L xs u d → ex_W G 10 (mc - 4) (ms - 24) M_L_law 1006 [(0, .ref s), (1, .ref x), (2, .ref (x + 892)), (3, .ref o), (4, .int (nI i))] [] h Q) : ex_W G 10 mc ms M_L_law 723 [(0, .ref s), (1, .ref x), (2, .ref (x + 892)), (3, .ref o), (4, .int (nI i))] [] h Q := by
  by_cases e3 : xs (i + 3) = 0
  · skip
    refine ex_aload_n ok_L_law (mL7 5 rfl) rfl ?_
    refine ex_aload_n ok_L_law (mL7 6 rfl) rfl ?_
    refine ex_iload ok_L_law (mL7 7 rfl) rfl ?_
    refine ex_iconst ok_L_law (mL7 8 rfl) ?_
    refine ex_iadd ok_L_law (mL7 9 rfl) ?_
    refine ex_top (w := nI (i + 1)) (nI_add _ 1) ?_
    refine lw_ld ok_L_law (mL7 10 rfl) w.2.2.2.2.1.1 w.2.2.2.2.1.2 hL (by omega) (w.2.2.2.2.2 (i + 1) (by omega)) ?_
    refine ex_aload_n ok_L_law (mL7 11 rfl) rfl ?_
    refine ex_iload ok_L_law (mL7 12 rfl) rfl ?_
    refine ex_iconst ok_L_law (mL7 13 rfl) ?_
    refine ex_iadd ok_L_law (mL7 14 rfl) ?_
    refine ex_top (w := nI (i + 2)) (nI_add _ 2) ?_
    refine lw_ld ok_L_law (mL7 15 rfl) w.2.2.2.2.1.1 w.2.2.2.2.1.2 hL (by omega) (w.2.2.2.2.2 (i + 2) (by omega)) ?_
    refine ex_aload_n ok_L_law (mL7 16 rfl) rfl ?_
    refine ex_iload ok_L_law (mL7 17 rfl) rfl ?_
    refine ex_iconst ok_L_law (mL7 18 rfl) ?_
    refine ex_iadd ok_L_law (mL7 19 rfl) ?_
    refine ex_top (w := nI (i + 3)) (nI_add _ 3) ?_
    refine lw_ld ok_L_law (mL7 20 rfl) w.2.2.2.2.1.1 w.2.2.2.2.1.2 hL (by omega) (w.2.2.2.2.2 (i + 3) (by omega)) ?_
    refine ex_if_eq (tgt := 749) ok_L_law (mL7 21 rfl) rfl (fun _ => ?_) (fun hn => absurd e3 hn)
    refine ex_iconst ok_L_law (mL7 24 rfl) ?_
    refine ex_aload_n ok_L_law (mL7 25 rfl) rfl ?_
    refine ex_callSHs (As := [_, _, _, _, _]) ok_L_law (mL7 26 rfl) rfl (l_entry hst w) rfl rfl rfl (by decide) (Nat.le_of_ble_eq_true rfl) ⟨hmc, hms⟩ (fun z1 h1 hl => ?_)
    obtain ⟨⟨k1, rfl⟩, w1⟩ := hl
    refine ex_istore ok_L_law (mL7 27 rfl) ?_
    refine ex_aload_n ok_L_law (mL7 28 rfl) rfl ?_
    refine ex_aload_n ok_L_law (mL7 29 rfl) rfl ?_
    refine ex_iload ok_L_law (mL7 30 rfl) rfl ?_
    refine ex_iconst ok_L_law (mL7 31 rfl) ?_
    refine ex_iadd ok_L_law (mL7 32 rfl) ?_
    refine ex_top (w := nI (i + 1)) (nI_add _ 1) ?_
    refine lw_ld ok_L_law (mL7 33 rfl) w1.2.2.2.2.1.1 w1.2.2.2.2.1.2 hL (by omega) (w1.2.2.2.2.2 (i + 1) (by omega)) ?_
    refine ex_aload_n ok_L_law (mL7 34 rfl) rfl ?_
    refine ex_iload ok_L_law (mL7 35 rfl) rfl ?_
    refine ex_iconst ok_L_law (mL7 36 rfl) ?_
    refine ex_iadd ok_L_law (mL7 37 rfl) ?_
    refine ex_top (w := nI (i + 2)) (nI_add _ 2) ?_
    refine lw_ld ok_L_law (mL7 38 rfl) w1.2.2.2.2.1.1 w1.2.2.2.2.1.2 hL (by omega) (w1.2.2.2.2.2 (i + 2) (by omega)) ?_
    refine ex_aload_n ok_L_law (mL7 39 rfl) rfl ?_
    refine ex_iload ok_L_law (mL7 40 rfl) rfl ?_
    refine ex_iconst ok_L_law (mL7 41 rfl) ?_
    refine ex_iadd ok_L_law (mL7 42 rfl) ?_
    refine ex_top (w := nI (i + 3)) (nI_add _ 3) ?_
    refine lw_ld ok_L_law (mL7 43 rfl) w1.2.2.2.2.1.1 w1.2.2.2.2.1.2 hL (by omega) (w1.2.2.2.2.2 (i + 3) (by omega)) ?_
    refine ex_if_eq (tgt := 782) ok_L_law (mL7 44 rfl) rfl (fun _ => ?_) (fun hn => absurd e3 hn)
    refine ex_iconst ok_L_law (mL7 47 rfl) ?_
    refine sm_V (As := [_, _, _]) ok_L_law (mL7 48 rfl) rfl (s_X12_entry hst w1.2.1) rfl (fk (x := x + 892) (a := 0) (MI_s w1.2.1) 0 rfl) rfl rfl (by decide) (by decide) (Nat.le_of_ble_eq_true rfl) ⟨Nat.zero_le _, Nat.zero_le _⟩ SM_no (fun z2 h2 hm => ?_)
    obtain ⟨v2, e2, p2, I2⟩ := hm
    cases e2
    obtain ⟨k2, rfl⟩ := p2
    have w2 := LB_m w1 I2
    refine ex_istore ok_L_law (mL7 49 rfl) ?_
    refine ex_goto (tgt := 1006) ok_L_law (mL7 50 rfl) rfl ?_
    exact ex_ls (ls' := [(0, .ref s), (1, .ref x), (2, .ref (x + 892)), (3, .ref o), (4, .int (nI i))]) ⟨rfl, rfl, rfl, rfl, rfl, trivial⟩ (hq _ w2)
  · skip
    refine ex_aload_n ok_L_law (mL7 5 rfl) rfl ?_
    refine ex_aload_n ok_L_law (mL7 6 rfl) rfl ?_
    refine ex_iload ok_L_law (mL7 7 rfl) rfl ?_
    refine ex_iconst ok_L_law (mL7 8 rfl) ?_
    refine ex_iadd ok_L_law (mL7 9 rfl) ?_
    refine ex_top (w := nI (i + 1)) (nI_add _ 1) ?_
    refine lw_ld ok_L_law (mL7 10 rfl) w.2.2.2.2.1.1 w.2.2.2.2.1.2 hL (by omega) (w.2.2.2.2.2 (i + 1) (by omega)) ?_
    refine ex_aload_n ok_L_law (mL7 11 rfl) rfl ?_
    refine ex_iload ok_L_law (mL7 12 rfl) rfl ?_
    refine ex_iconst ok_L_law (mL7 13 rfl) ?_
    refine ex_iadd ok_L_law (mL7 14 rfl) ?_
    refine ex_top (w := nI (i + 2)) (nI_add _ 2) ?_
    refine lw_ld ok_L_law (mL7 15 rfl) w.2.2.2.2.1.1 w.2.2.2.2.1.2 hL (by omega) (w.2.2.2.2.2 (i + 2) (by omega)) ?_
    refine ex_aload_n ok_L_law (mL7 16 rfl) rfl ?_
    refine ex_iload ok_L_law (mL7 17 rfl) rfl ?_
    refine ex_iconst ok_L_law (mL7 18 rfl) ?_
    refine ex_iadd ok_L_law (mL7 19 rfl) ?_
    refine ex_top (w := nI (i + 3)) (nI_add _ 3) ?_
    refine lw_ld ok_L_law (mL7 20 rfl) w.2.2.2.2.1.1 w.2.2.2.2.1.2 hL (by omega) (w.2.2.2.2.2 (i + 3) (by omega)) ?_
    refine ex_if_eq (tgt := 749) ok_L_law (mL7 21 rfl) rfl (fun hn => absurd hn e3) (fun _ => ?_)
    refine ex_iconst ok_L_law (mL7 22 rfl) ?_
    refine ex_goto (tgt := 750) ok_L_law (mL7 23 rfl) rfl ?_
    refine ex_aload_n ok_L_law (mL7 25 rfl) rfl ?_
    refine ex_callSHs (As := [_, _, _, _, _]) ok_L_law (mL7 26 rfl) rfl (l_entry hst w) rfl rfl rfl (by decide) (Nat.le_of_ble_eq_true rfl) ⟨hmc, hms⟩ (fun z1 h1 hl => ?_)
    obtain ⟨⟨k1, rfl⟩, w1⟩ := hl
    refine ex_istore ok_L_law (mL7 27 rfl) ?_
    refine ex_aload_n ok_L_law (mL7 28 rfl) rfl ?_
    refine ex_aload_n ok_L_law (mL7 29 rfl) rfl ?_
    refine ex_iload ok_L_law (mL7 30 rfl) rfl ?_
    refine ex_iconst ok_L_law (mL7 31 rfl) ?_
    refine ex_iadd ok_L_law (mL7 32 rfl) ?_
    refine ex_top (w := nI (i + 1)) (nI_add _ 1) ?_
    refine lw_ld ok_L_law (mL7 33 rfl) w1.2.2.2.2.1.1 w1.2.2.2.2.1.2 hL (by omega) (w1.2.2.2.2.2 (i + 1) (by omega)) ?_
    refine ex_aload_n ok_L_law (mL7 34 rfl) rfl ?_
    refine ex_iload ok_L_law (mL7 35 rfl) rfl ?_
    refine ex_iconst ok_L_law (mL7 36 rfl) ?_
    refine ex_iadd ok_L_law (mL7 37 rfl) ?_
    refine ex_top (w := nI (i + 2)) (nI_add _ 2) ?_
    refine lw_ld ok_L_law (mL7 38 rfl) w1.2.2.2.2.1.1 w1.2.2.2.2.1.2 hL (by omega) (w1.2.2.2.2.2 (i + 2) (by omega)) ?_
    refine ex_aload_n ok_L_law (mL7 39 rfl) rfl ?_
    refine ex_iload ok_L_law (mL7 40 rfl) rfl ?_
    refine ex_iconst ok_L_law (mL7 41 rfl) ?_
    refine ex_iadd ok_L_law (mL7 42 rfl) ?_
    refine ex_top (w := nI (i + 3)) (nI_add _ 3) ?_
    refine lw_ld ok_L_law (mL7 43 rfl) w1.2.2.2.2.1.1 w1.2.2.2.2.1.2 hL (by omega) (w1.2.2.2.2.2 (i + 3) (by omega)) ?_
    refine ex_if_eq (tgt := 782) ok_L_law (mL7 44 rfl) rfl (fun hn => absurd hn e3) (fun _ => ?_)
    refine ex_iconst ok_L_law (mL7 45 rfl) ?_
    refine ex_goto (tgt := 783) ok_L_law (mL7 46 rfl) rfl ?_
    refine sm_V (As := [_, _, _]) ok_L_law (mL7 48 rfl) rfl (s_X12_entry hst w1.2.1) rfl (fk (x := x + 892) (a := 0) (MI_s w1.2.1) 0 rfl) rfl rfl (by decide) (by decide) (Nat.le_of_ble_eq_true rfl) ⟨Nat.zero_le _, Nat.zero_le _⟩ SM_no (fun z2 h2 hm => ?_)
    obtain ⟨v2, e2, p2, I2⟩ := hm
    cases e2
    obtain ⟨k2, rfl⟩ := p2
    have w2 := LB_m w1 I2
    refine ex_istore ok_L_law (mL7 49 rfl) ?_
    refine ex_goto (tgt := 1006) ok_L_law (mL7 50 rfl) rfl ?_
    exact ex_ls (ls' := [(0, .ref s), (1, .ref x), (2, .ref (x + 892)), (3, .ref o), (4, .int (nI i))]) ⟨rfl, rfl, rfl, rfl, rfl, trivial⟩ (hq _ w2)
theorem w_voter {G : GE} (hst : (ge_l G).stackTraces = false) {x o s L i mc ms : Nat} {h : GT} {Q : RT → GT → Prop} {xs u d : Nat → Int32} (hL : L ≤ 2048) (hi : i + 4 ≤ L) (w : LB h x o s L xs u d) (hmc : 4 ≤ mc) (hms : 24 ≤ ms) (hq : ∀ h, LB h x o s L xs u d → ex_W G 10 (mc - 4) (ms - 24) M_L_law 1006 [(0, .ref s), (1, .ref x), (2, .ref (x + 892)), (3, .ref o), (4, .int (nI i))] [] h Q) : ex_W G 10 mc ms M_L_law 791 [(0, .ref s), (1, .ref x), (2, .ref (x + 892)), (3, .ref o), (4, .int (nI i))] [] h Q := by
  refine ex_aload_n ok_L_law (mL7 51 rfl) rfl ?_
  refine ex_aload_n ok_L_law (mL7 52 rfl) rfl ?_
  refine ex_iload ok_L_law (mL7 53 rfl) rfl ?_
  refine ex_iconst ok_L_law (mL7 54 rfl) ?_
  refine ex_iadd ok_L_law (mL7 55 rfl) ?_
  refine ex_top (w := nI (i + 1)) (nI_add _ 1) ?_
  refine lw_ld ok_L_law (mL7 56 rfl) w.2.2.2.2.1.1 w.2.2.2.2.1.2 hL (by omega) (w.2.2.2.2.2 (i + 1) (by omega)) ?_
  refine ex_aload_n ok_L_law (mL7 57 rfl) rfl ?_
  refine ex_iload ok_L_law (mL7 58 rfl) rfl ?_
  refine ex_iconst ok_L_law (mL7 59 rfl) ?_
  refine ex_iadd ok_L_law (mL8 0 rfl) ?_
  refine ex_top (w := nI (i + 2)) (nI_add _ 2) ?_
  refine lw_ld ok_L_law (mL8 1 rfl) w.2.2.2.2.1.1 w.2.2.2.2.1.2 hL (by omega) (w.2.2.2.2.2 (i + 2) (by omega)) ?_
  refine ex_aload_n ok_L_law (mL8 2 rfl) rfl ?_
  refine ex_callSHs (As := [_, _, _, _]) ok_L_law (mL8 3 rfl) rfl (l_voter hst w) rfl rfl rfl (by decide) (Nat.le_of_ble_eq_true rfl) ⟨hmc, hms⟩ (fun z1 h1 hl => ?_)
  obtain ⟨⟨k1, rfl⟩, w1⟩ := hl
  refine ex_istore ok_L_law (mL8 4 rfl) ?_
  refine ex_aload_n ok_L_law (mL8 5 rfl) rfl ?_
  refine ex_aload_n ok_L_law (mL8 6 rfl) rfl ?_
  refine ex_iload ok_L_law (mL8 7 rfl) rfl ?_
  refine ex_iconst ok_L_law (mL8 8 rfl) ?_
  refine ex_iadd ok_L_law (mL8 9 rfl) ?_
  refine ex_top (w := nI (i + 1)) (nI_add _ 1) ?_
  refine lw_ld ok_L_law (mL8 10 rfl) w1.2.2.2.2.1.1 w1.2.2.2.2.1.2 hL (by omega) (w1.2.2.2.2.2 (i + 1) (by omega)) ?_
  refine ex_aload_n ok_L_law (mL8 11 rfl) rfl ?_
  refine ex_iload ok_L_law (mL8 12 rfl) rfl ?_
  refine ex_iconst ok_L_law (mL8 13 rfl) ?_
  refine ex_iadd ok_L_law (mL8 14 rfl) ?_
  refine ex_top (w := nI (i + 2)) (nI_add _ 2) ?_
  refine lw_ld ok_L_law (mL8 15 rfl) w1.2.2.2.2.1.1 w1.2.2.2.2.1.2 hL (by omega) (w1.2.2.2.2.2 (i + 2) (by omega)) ?_
  refine sm_V (As := [_, _]) ok_L_law (mL8 16 rfl) rfl (s_X12_voter hst w1.2.1) rfl (fk (x := x + 892) (a := 0) (MI_s w1.2.1) 0 rfl) rfl rfl (by decide) (by decide) (Nat.le_of_ble_eq_true rfl) ⟨Nat.zero_le _, Nat.zero_le _⟩ SM_no (fun z2 h2 hm => ?_)
  obtain ⟨v2, e2, p2, I2⟩ := hm
  cases e2
  obtain ⟨k2, rfl⟩ := p2
  have w2 := LB_m w1 I2
  refine ex_istore ok_L_law (mL8 17 rfl) ?_
  refine ex_goto (tgt := 1006) ok_L_law (mL8 18 rfl) rfl ?_
  exact ex_ls (ls' := [(0, .ref s), (1, .ref x), (2, .ref (x + 892)), (3, .ref o), (4, .int (nI i))]) ⟨rfl, rfl, rfl, rfl, rfl, trivial⟩ (hq _ w2)
theorem w_vote {G : GE} (hst : (ge_l G).stackTraces = false) {x o s L i mc ms : Nat} {h : GT} {Q : RT → GT → Prop} {xs u d : Nat → Int32} (hL : L ≤ 2048) (hi : i + 4 ≤ L) (w : LB h x o s L xs u d) (hmc : 4 ≤ mc) (hms : 24 ≤ ms) (hq : ∀ h, LB h x o s L xs u d → ex_W G 10 (mc - 4) (ms - 24) M_L_law 1006 [(0, .ref s), (1, .ref x), (2, .ref (x + 892)), (3, .ref o), (4, .int (nI i))] [] h Q) : ex_W G 10 mc ms M_L_law 831 [(0, .ref s), (1, .ref x), (2, .ref (x + 892)), (3, .ref o), (4, .int (nI i))] [] h Q := by
  by_cases e3 : xs (i + 3) = 0
  · skip
    refine ex_aload_n ok_L_law (mL8 19 rfl) rfl ?_
    refine ex_aload_n ok_L_law (mL8 20 rfl) rfl ?_
    refine ex_iload ok_L_law (mL8 21 rfl) rfl ?_
    refine ex_iconst ok_L_law (mL8 22 rfl) ?_
    refine ex_iadd ok_L_law (mL8 23 rfl) ?_
    refine ex_top (w := nI (i + 1)) (nI_add _ 1) ?_
    refine lw_ld ok_L_law (mL8 24 rfl) w.2.2.2.2.1.1 w.2.2.2.2.1.2 hL (by omega) (w.2.2.2.2.2 (i + 1) (by omega)) ?_
    refine ex_aload_n ok_L_law (mL8 25 rfl) rfl ?_
    refine ex_iload ok_L_law (mL8 26 rfl) rfl ?_
    refine ex_iconst ok_L_law (mL8 27 rfl) ?_
    refine ex_iadd ok_L_law (mL8 28 rfl) ?_
    refine ex_top (w := nI (i + 2)) (nI_add _ 2) ?_
    refine lw_ld ok_L_law (mL8 29 rfl) w.2.2.2.2.1.1 w.2.2.2.2.1.2 hL (by omega) (w.2.2.2.2.2 (i + 2) (by omega)) ?_
    refine ex_aload_n ok_L_law (mL8 30 rfl) rfl ?_
    refine ex_iload ok_L_law (mL8 31 rfl) rfl ?_
    refine ex_iconst ok_L_law (mL8 32 rfl) ?_
    refine ex_iadd ok_L_law (mL8 33 rfl) ?_
    refine ex_top (w := nI (i + 3)) (nI_add _ 3) ?_
    refine lw_ld ok_L_law (mL8 34 rfl) w.2.2.2.2.1.1 w.2.2.2.2.1.2 hL (by omega) (w.2.2.2.2.2 (i + 3) (by omega)) ?_
    refine ex_if_eq (tgt := 857) ok_L_law (mL8 35 rfl) rfl (fun _ => ?_) (fun hn => absurd e3 hn)
    refine ex_iconst ok_L_law (mL8 38 rfl) ?_
    refine ex_aload_n ok_L_law (mL8 39 rfl) rfl ?_
    refine ex_callSHs (As := [_, _, _, _, _]) ok_L_law (mL8 40 rfl) rfl (l_vote hst w) rfl rfl rfl (by decide) (Nat.le_of_ble_eq_true rfl) ⟨hmc, hms⟩ (fun z1 h1 hl => ?_)
    obtain ⟨⟨k1, rfl⟩, w1⟩ := hl
    refine ex_istore ok_L_law (mL8 41 rfl) ?_
    refine ex_aload_n ok_L_law (mL8 42 rfl) rfl ?_
    refine ex_aload_n ok_L_law (mL8 43 rfl) rfl ?_
    refine ex_iload ok_L_law (mL8 44 rfl) rfl ?_
    refine ex_iconst ok_L_law (mL8 45 rfl) ?_
    refine ex_iadd ok_L_law (mL8 46 rfl) ?_
    refine ex_top (w := nI (i + 1)) (nI_add _ 1) ?_
    refine lw_ld ok_L_law (mL8 47 rfl) w1.2.2.2.2.1.1 w1.2.2.2.2.1.2 hL (by omega) (w1.2.2.2.2.2 (i + 1) (by omega)) ?_
    refine ex_aload_n ok_L_law (mL8 48 rfl) rfl ?_
    refine ex_iload ok_L_law (mL8 49 rfl) rfl ?_
    refine ex_iconst ok_L_law (mL8 50 rfl) ?_
    refine ex_iadd ok_L_law (mL8 51 rfl) ?_
    refine ex_top (w := nI (i + 2)) (nI_add _ 2) ?_
    refine lw_ld ok_L_law (mL8 52 rfl) w1.2.2.2.2.1.1 w1.2.2.2.2.1.2 hL (by omega) (w1.2.2.2.2.2 (i + 2) (by omega)) ?_
    refine ex_aload_n ok_L_law (mL8 53 rfl) rfl ?_
    refine ex_iload ok_L_law (mL8 54 rfl) rfl ?_
    refine ex_iconst ok_L_law (mL8 55 rfl) ?_
    refine ex_iadd ok_L_law (mL8 56 rfl) ?_
    refine ex_top (w := nI (i + 3)) (nI_add _ 3) ?_
    refine lw_ld ok_L_law (mL8 57 rfl) w1.2.2.2.2.1.1 w1.2.2.2.2.1.2 hL (by omega) (w1.2.2.2.2.2 (i + 3) (by omega)) ?_
    refine ex_if_eq (tgt := 890) ok_L_law (mL8 58 rfl) rfl (fun _ => ?_) (fun hn => absurd e3 hn)
    refine ex_iconst ok_L_law (mL9 1 rfl) ?_
    refine sm_V (As := [_, _, _]) ok_L_law (mL9 2 rfl) rfl (s_X12_vote hst w1.2.1) rfl (fk (x := x + 892) (a := 0) (MI_s w1.2.1) 0 rfl) rfl rfl (by decide) (by decide) (Nat.le_of_ble_eq_true rfl) ⟨Nat.zero_le _, Nat.zero_le _⟩ SM_no (fun z2 h2 hm => ?_)
    obtain ⟨v2, e2, p2, I2⟩ := hm
    cases e2
    obtain ⟨k2, rfl⟩ := p2
    have w2 := LB_m w1 I2
    refine ex_istore ok_L_law (mL9 3 rfl) ?_
    refine ex_goto (tgt := 1006) ok_L_law (mL9 4 rfl) rfl ?_
    exact ex_ls (ls' := [(0, .ref s), (1, .ref x), (2, .ref (x + 892)), (3, .ref o), (4, .int (nI i))]) ⟨rfl, rfl, rfl, rfl, rfl, trivial⟩ (hq _ w2)
  · skip
    refine ex_aload_n ok_L_law (mL8 19 rfl) rfl ?_
    refine ex_aload_n ok_L_law (mL8 20 rfl) rfl ?_
    refine ex_iload ok_L_law (mL8 21 rfl) rfl ?_
    refine ex_iconst ok_L_law (mL8 22 rfl) ?_
    refine ex_iadd ok_L_law (mL8 23 rfl) ?_
    refine ex_top (w := nI (i + 1)) (nI_add _ 1) ?_
    refine lw_ld ok_L_law (mL8 24 rfl) w.2.2.2.2.1.1 w.2.2.2.2.1.2 hL (by omega) (w.2.2.2.2.2 (i + 1) (by omega)) ?_
    refine ex_aload_n ok_L_law (mL8 25 rfl) rfl ?_
    refine ex_iload ok_L_law (mL8 26 rfl) rfl ?_
    refine ex_iconst ok_L_law (mL8 27 rfl) ?_
    refine ex_iadd ok_L_law (mL8 28 rfl) ?_
    refine ex_top (w := nI (i + 2)) (nI_add _ 2) ?_
    refine lw_ld ok_L_law (mL8 29 rfl) w.2.2.2.2.1.1 w.2.2.2.2.1.2 hL (by omega) (w.2.2.2.2.2 (i + 2) (by omega)) ?_
    refine ex_aload_n ok_L_law (mL8 30 rfl) rfl ?_
    refine ex_iload ok_L_law (mL8 31 rfl) rfl ?_
    refine ex_iconst ok_L_law (mL8 32 rfl) ?_
    refine ex_iadd ok_L_law (mL8 33 rfl) ?_
    refine ex_top (w := nI (i + 3)) (nI_add _ 3) ?_
    refine lw_ld ok_L_law (mL8 34 rfl) w.2.2.2.2.1.1 w.2.2.2.2.1.2 hL (by omega) (w.2.2.2.2.2 (i + 3) (by omega)) ?_
    refine ex_if_eq (tgt := 857) ok_L_law (mL8 35 rfl) rfl (fun hn => absurd hn e3) (fun _ => ?_)
    refine ex_iconst ok_L_law (mL8 36 rfl) ?_
    refine ex_goto (tgt := 858) ok_L_law (mL8 37 rfl) rfl ?_
    refine ex_aload_n ok_L_law (mL8 39 rfl) rfl ?_
    refine ex_callSHs (As := [_, _, _, _, _]) ok_L_law (mL8 40 rfl) rfl (l_vote hst w) rfl rfl rfl (by decide) (Nat.le_of_ble_eq_true rfl) ⟨hmc, hms⟩ (fun z1 h1 hl => ?_)
    obtain ⟨⟨k1, rfl⟩, w1⟩ := hl
    refine ex_istore ok_L_law (mL8 41 rfl) ?_
    refine ex_aload_n ok_L_law (mL8 42 rfl) rfl ?_
    refine ex_aload_n ok_L_law (mL8 43 rfl) rfl ?_
    refine ex_iload ok_L_law (mL8 44 rfl) rfl ?_
    refine ex_iconst ok_L_law (mL8 45 rfl) ?_
    refine ex_iadd ok_L_law (mL8 46 rfl) ?_
    refine ex_top (w := nI (i + 1)) (nI_add _ 1) ?_
    refine lw_ld ok_L_law (mL8 47 rfl) w1.2.2.2.2.1.1 w1.2.2.2.2.1.2 hL (by omega) (w1.2.2.2.2.2 (i + 1) (by omega)) ?_
    refine ex_aload_n ok_L_law (mL8 48 rfl) rfl ?_
    refine ex_iload ok_L_law (mL8 49 rfl) rfl ?_
    refine ex_iconst ok_L_law (mL8 50 rfl) ?_
    refine ex_iadd ok_L_law (mL8 51 rfl) ?_
    refine ex_top (w := nI (i + 2)) (nI_add _ 2) ?_
    refine lw_ld ok_L_law (mL8 52 rfl) w1.2.2.2.2.1.1 w1.2.2.2.2.1.2 hL (by omega) (w1.2.2.2.2.2 (i + 2) (by omega)) ?_
    refine ex_aload_n ok_L_law (mL8 53 rfl) rfl ?_
    refine ex_iload ok_L_law (mL8 54 rfl) rfl ?_
    refine ex_iconst ok_L_law (mL8 55 rfl) ?_
    refine ex_iadd ok_L_law (mL8 56 rfl) ?_
    refine ex_top (w := nI (i + 3)) (nI_add _ 3) ?_
    refine lw_ld ok_L_law (mL8 57 rfl) w1.2.2.2.2.1.1 w1.2.2.2.2.1.2 hL (by omega) (w1.2.2.2.2.2 (i + 3) (by omega)) ?_
    refine ex_if_eq (tgt := 890) ok_L_law (mL8 58 rfl) rfl (fun hn => absurd hn e3) (fun _ => ?_)
    refine ex_iconst ok_L_law (mL8 59 rfl) ?_
    refine ex_goto (tgt := 891) ok_L_law (mL9 0 rfl) rfl ?_
    refine sm_V (As := [_, _, _]) ok_L_law (mL9 2 rfl) rfl (s_X12_vote hst w1.2.1) rfl (fk (x := x + 892) (a := 0) (MI_s w1.2.1) 0 rfl) rfl rfl (by decide) (by decide) (Nat.le_of_ble_eq_true rfl) ⟨Nat.zero_le _, Nat.zero_le _⟩ SM_no (fun z2 h2 hm => ?_)
    obtain ⟨v2, e2, p2, I2⟩ := hm
    cases e2
    obtain ⟨k2, rfl⟩ := p2
    have w2 := LB_m w1 I2
    refine ex_istore ok_L_law (mL9 3 rfl) ?_
    refine ex_goto (tgt := 1006) ok_L_law (mL9 4 rfl) rfl ?_
    exact ex_ls (ls' := [(0, .ref s), (1, .ref x), (2, .ref (x + 892)), (3, .ref o), (4, .int (nI i))]) ⟨rfl, rfl, rfl, rfl, rfl, trivial⟩ (hq _ w2)
theorem w_copy {G : GE} (hst : (ge_l G).stackTraces = false) {x o s L i mc ms : Nat} {h : GT} {Q : RT → GT → Prop} {xs u d : Nat → Int32} (hL : L ≤ 2048) (hi : i + 4 ≤ L) (w : LB h x o s L xs u d) (hmc : 4 ≤ mc) (hms : 24 ≤ ms) (hq : ∀ h, LB h x o s L xs u d → ex_W G 10 (mc - 4) (ms - 24) M_L_law 1006 [(0, .ref s), (1, .ref x), (2, .ref (x + 892)), (3, .ref o), (4, .int (nI i))] [] h Q) : ex_W G 10 mc ms M_L_law 899 [(0, .ref s), (1, .ref x), (2, .ref (x + 892)), (3, .ref o), (4, .int (nI i))] [] h Q := by
  refine ex_aload_n ok_L_law (mL9 5 rfl) rfl ?_
  refine ex_aload_n ok_L_law (mL9 6 rfl) rfl ?_
  refine ex_iload ok_L_law (mL9 7 rfl) rfl ?_
  refine ex_iconst ok_L_law (mL9 8 rfl) ?_
  refine ex_iadd ok_L_law (mL9 9 rfl) ?_
  refine ex_top (w := nI (i + 1)) (nI_add _ 1) ?_
  refine lw_ld ok_L_law (mL9 10 rfl) w.2.2.2.2.1.1 w.2.2.2.2.1.2 hL (by omega) (w.2.2.2.2.2 (i + 1) (by omega)) ?_
  refine ex_aload_n ok_L_law (mL9 11 rfl) rfl ?_
  refine ex_iload ok_L_law (mL9 12 rfl) rfl ?_
  refine ex_iconst ok_L_law (mL9 13 rfl) ?_
  refine ex_iadd ok_L_law (mL9 14 rfl) ?_
  refine ex_top (w := nI (i + 2)) (nI_add _ 2) ?_
  refine lw_ld ok_L_law (mL9 15 rfl) w.2.2.2.2.1.1 w.2.2.2.2.1.2 hL (by omega) (w.2.2.2.2.2 (i + 2) (by omega)) ?_
  refine ex_aload_n ok_L_law (mL9 16 rfl) rfl ?_
  refine ex_callSHs (As := [_, _, _, _]) ok_L_law (mL9 17 rfl) rfl (l_copy hst w) rfl rfl rfl (by decide) (Nat.le_of_ble_eq_true rfl) ⟨hmc, hms⟩ (fun z1 h1 hl => ?_)
  obtain ⟨⟨k1, rfl⟩, w1⟩ := hl
  refine ex_istore ok_L_law (mL9 18 rfl) ?_
  refine ex_aload_n ok_L_law (mL9 19 rfl) rfl ?_
  refine ex_aload_n ok_L_law (mL9 20 rfl) rfl ?_
  refine ex_iload ok_L_law (mL9 21 rfl) rfl ?_
  refine ex_iconst ok_L_law (mL9 22 rfl) ?_
  refine ex_iadd ok_L_law (mL9 23 rfl) ?_
  refine ex_top (w := nI (i + 1)) (nI_add _ 1) ?_
  refine lw_ld ok_L_law (mL9 24 rfl) w1.2.2.2.2.1.1 w1.2.2.2.2.1.2 hL (by omega) (w1.2.2.2.2.2 (i + 1) (by omega)) ?_
  refine ex_aload_n ok_L_law (mL9 25 rfl) rfl ?_
  refine ex_iload ok_L_law (mL9 26 rfl) rfl ?_
  refine ex_iconst ok_L_law (mL9 27 rfl) ?_
  refine ex_iadd ok_L_law (mL9 28 rfl) ?_
  refine ex_top (w := nI (i + 2)) (nI_add _ 2) ?_
  refine lw_ld ok_L_law (mL9 29 rfl) w1.2.2.2.2.1.1 w1.2.2.2.2.1.2 hL (by omega) (w1.2.2.2.2.2 (i + 2) (by omega)) ?_
  refine sm_V (As := [_, _]) ok_L_law (mL9 30 rfl) rfl (s_X12_copy hst w1.2.1) rfl (fk (x := x + 892) (a := 0) (MI_s w1.2.1) 0 rfl) rfl rfl (by decide) (by decide) (Nat.le_of_ble_eq_true rfl) ⟨Nat.zero_le _, Nat.zero_le _⟩ SM_no (fun z2 h2 hm => ?_)
  obtain ⟨v2, e2, p2, I2⟩ := hm
  cases e2
  obtain ⟨k2, rfl⟩ := p2
  have w2 := LB_m w1 I2
  refine ex_istore ok_L_law (mL9 31 rfl) ?_
  refine ex_goto (tgt := 1006) ok_L_law (mL9 32 rfl) rfl ?_
  exact ex_ls (ls' := [(0, .ref s), (1, .ref x), (2, .ref (x + 892)), (3, .ref o), (4, .int (nI i))]) ⟨rfl, rfl, rfl, rfl, rfl, trivial⟩ (hq _ w2)
theorem w_agreed {G : GE} (hst : (ge_l G).stackTraces = false) {x o s L i mc ms : Nat} {h : GT} {Q : RT → GT → Prop} {xs u d : Nat → Int32} (hL : L ≤ 2048) (hi : i + 4 ≤ L) (w : LB h x o s L xs u d) (hmc : 4 ≤ mc) (hms : 24 ≤ ms) (hq : ∀ h, LB h x o s L xs u d → ex_W G 10 (mc - 4) (ms - 24) M_L_law 1006 [(0, .ref s), (1, .ref x), (2, .ref (x + 892)), (3, .ref o), (4, .int (nI i))] [] h Q) : ex_W G 10 mc ms M_L_law 939 [(0, .ref s), (1, .ref x), (2, .ref (x + 892)), (3, .ref o), (4, .int (nI i))] [] h Q := by
  refine ex_aload_n ok_L_law (mL9 33 rfl) rfl ?_
  refine ex_aload_n ok_L_law (mL9 34 rfl) rfl ?_
  refine ex_iload ok_L_law (mL9 35 rfl) rfl ?_
  refine ex_iconst ok_L_law (mL9 36 rfl) ?_
  refine ex_iadd ok_L_law (mL9 37 rfl) ?_
  refine ex_top (w := nI (i + 1)) (nI_add _ 1) ?_
  refine lw_ld ok_L_law (mL9 38 rfl) w.2.2.2.2.1.1 w.2.2.2.2.1.2 hL (by omega) (w.2.2.2.2.2 (i + 1) (by omega)) ?_
  refine ex_aload_n ok_L_law (mL9 39 rfl) rfl ?_
  refine ex_callSHs (As := [_, _, _]) ok_L_law (mL9 40 rfl) rfl (l_agreed hst w) rfl rfl rfl (by decide) (Nat.le_of_ble_eq_true rfl) ⟨hmc, hms⟩ (fun z1 h1 hl => ?_)
  obtain ⟨⟨k1, rfl⟩, w1⟩ := hl
  refine ex_istore ok_L_law (mL9 41 rfl) ?_
  refine ex_aload_n ok_L_law (mL9 42 rfl) rfl ?_
  refine ex_aload_n ok_L_law (mL9 43 rfl) rfl ?_
  refine ex_iload ok_L_law (mL9 44 rfl) rfl ?_
  refine ex_iconst ok_L_law (mL9 45 rfl) ?_
  refine ex_iadd ok_L_law (mL9 46 rfl) ?_
  refine ex_top (w := nI (i + 1)) (nI_add _ 1) ?_
  refine lw_ld ok_L_law (mL9 47 rfl) w1.2.2.2.2.1.1 w1.2.2.2.2.1.2 hL (by omega) (w1.2.2.2.2.2 (i + 1) (by omega)) ?_
  refine sm_V (As := [_]) ok_L_law (mL9 48 rfl) rfl (s_X12_agreed hst w1.2.1) rfl (fk (x := x + 892) (a := 0) (MI_s w1.2.1) 0 rfl) rfl rfl (by decide) (by decide) (Nat.le_of_ble_eq_true rfl) ⟨Nat.zero_le _, Nat.zero_le _⟩ SM_no (fun z2 h2 hm => ?_)
  obtain ⟨v2, e2, p2, I2⟩ := hm
  cases e2
  obtain ⟨k2, rfl⟩ := p2
  have w2 := LB_m w1 I2
  refine ex_istore ok_L_law (mL9 49 rfl) ?_
  refine ex_goto (tgt := 1006) ok_L_law (mL9 50 rfl) rfl ?_
  exact ex_ls (ls' := [(0, .ref s), (1, .ref x), (2, .ref (x + 892)), (3, .ref o), (4, .int (nI i))]) ⟨rfl, rfl, rfl, rfl, rfl, trivial⟩ (hq _ w2)
theorem w_count {G : GE} (hst : (ge_l G).stackTraces = false) {x o s L i mc ms : Nat} {h : GT} {Q : RT → GT → Prop} {xs u d : Nat → Int32} (hL : L ≤ 2048) (hi : i + 4 ≤ L) (w : LB h x o s L xs u d) (hmc : 4 ≤ mc) (hms : 24 ≤ ms) (hq : ∀ h, LB h x o s L xs u d → ex_W G 10 (mc - 4) (ms - 24) M_L_law 1006 [(0, .ref s), (1, .ref x), (2, .ref (x + 892)), (3, .ref o), (4, .int (nI i))] [] h Q) : ex_W G 10 mc ms M_L_law 967 [(0, .ref s), (1, .ref x), (2, .ref (x + 892)), (3, .ref o), (4, .int (nI i))] [] h Q := by
  refine ex_aload_n ok_L_law (mL9 51 rfl) rfl ?_
  refine ex_aload_n ok_L_law (mL9 52 rfl) rfl ?_
  refine ex_iload ok_L_law (mL9 53 rfl) rfl ?_
  refine ex_iconst ok_L_law (mL9 54 rfl) ?_
  refine ex_iadd ok_L_law (mL9 55 rfl) ?_
  refine ex_top (w := nI (i + 1)) (nI_add _ 1) ?_
  refine lw_ld ok_L_law (mL9 56 rfl) w.2.2.2.2.1.1 w.2.2.2.2.1.2 hL (by omega) (w.2.2.2.2.2 (i + 1) (by omega)) ?_
  refine ex_aload_n ok_L_law (mL9 57 rfl) rfl ?_
  refine ex_callSHs (As := [_, _, _]) ok_L_law (mL9 58 rfl) rfl (l_count hst w) rfl rfl rfl (by decide) (Nat.le_of_ble_eq_true rfl) ⟨hmc, hms⟩ (fun z1 h1 hl => ?_)
  obtain ⟨⟨k1, rfl⟩, w1⟩ := hl
  refine ex_istore ok_L_law (mL9 59 rfl) ?_
  refine ex_aload_n ok_L_law (mL10 0 rfl) rfl ?_
  refine ex_aload_n ok_L_law (mL10 1 rfl) rfl ?_
  refine ex_iload ok_L_law (mL10 2 rfl) rfl ?_
  refine ex_iconst ok_L_law (mL10 3 rfl) ?_
  refine ex_iadd ok_L_law (mL10 4 rfl) ?_
  refine ex_top (w := nI (i + 1)) (nI_add _ 1) ?_
  refine lw_ld ok_L_law (mL10 5 rfl) w1.2.2.2.2.1.1 w1.2.2.2.2.1.2 hL (by omega) (w1.2.2.2.2.2 (i + 1) (by omega)) ?_
  refine sm_V (As := [_]) ok_L_law (mL10 6 rfl) rfl (s_X12_count hst w1.2.1) rfl (fk (x := x + 892) (a := 0) (MI_s w1.2.1) 0 rfl) rfl rfl (by decide) (by decide) (Nat.le_of_ble_eq_true rfl) ⟨Nat.zero_le _, Nat.zero_le _⟩ SM_no (fun z2 h2 hm => ?_)
  obtain ⟨v2, e2, p2, I2⟩ := hm
  cases e2
  obtain ⟨k2, rfl⟩ := p2
  have w2 := LB_m w1 I2
  refine ex_istore ok_L_law (mL10 7 rfl) ?_
  refine ex_goto (tgt := 1006) ok_L_law (mL10 8 rfl) rfl ?_
  exact ex_ls (ls' := [(0, .ref s), (1, .ref x), (2, .ref (x + 892)), (3, .ref o), (4, .int (nI i))]) ⟨rfl, rfl, rfl, rfl, rfl, trivial⟩ (hq _ w2)
def UMP (x o s L : Nat) (xs u d : Nat → Int32) (k v : Nat) (h : GT) : RT → GT → Prop := fun r h' => r = .inl (some (.int (nI v))) ∧ gx_I h' 1200 (x + 892) = nI k ∧ gx_L h' o 0 = gx_L h o 0 ∧ LB h' x o s L xs u d
theorem UMP_no {x o s L k v : Nat} {xs u d : Nat → Int32} {h : GT} : ∀ E g', ¬ UMP x o s L xs u d k v h (.inr E) g' := fun E g' q => by
  cases q.1
theorem w_up_0_0_0 {G : GE} (hst : (ge_l G).stackTraces = false) {x o s L i mc ms : Nat} {h : GT} {Q : RT → GT → Prop} {xs u d : Nat → Int32} (hL : L ≤ 2048) (hi : i + 4 ≤ L) (w : LB h x o s L xs u d) (hmc : 4 ≤ mc) (hms : 24 ≤ ms) {u' d' : Nat → Int32} (e3 :  xs (i + 3) = 0) (cl : ex_MH G 4 4 24 my_L_up [.ref x, .int (xs (i + 1)), .int (xs (i + 2)), .int (nI 0), .ref o] h (fun r h' => ∃ z, r = .inl z ∧ (z = some (.int (nI 0)) ∧ ((0 : Nat) = 0 → gx_L h' o 0 = Int64.ofNat 0) ∧ LB h' x o s L xs u' d))) (cm : ∀ h', LB h' x o s L xs u' d → ex_M G 2 0 0 my_X12_up [.ref (x + 892), .int (xs (i + 1)), .int (xs (i + 2)), .int (nI 0)] h' (UMP x o s L xs u' d' 0 0 h')) (hq : ∀ h, LB h x o s L xs u' d' → ex_W G 10 (mc - 4) (ms - 24) M_L_law 1006 [(0, .ref s), (1, .ref x), (2, .ref (x + 892)), (3, .ref o), (4, .int (nI i))] [] h Q) : ex_W G 10 mc ms M_L_law 448 [(0, .ref s), (1, .ref x), (2, .ref (x + 892)), (3, .ref o), (4, .int (nI i))] [] h Q := by
  refine ex_aload_n ok_L_law (mL3 57 rfl) rfl ?_
  refine ex_aload_n ok_L_law (mL3 58 rfl) rfl ?_
  refine ex_iload ok_L_law (mL3 59 rfl) rfl ?_
  refine ex_iconst ok_L_law (mL4 0 rfl) ?_
  refine ex_iadd ok_L_law (mL4 1 rfl) ?_
  refine ex_top (w := nI (i + 1)) (nI_add _ 1) ?_
  refine lw_ld ok_L_law (mL4 2 rfl) w.2.2.2.2.1.1 w.2.2.2.2.1.2 hL (by omega) (w.2.2.2.2.2 (i + 1) (by omega)) ?_
  refine ex_aload_n ok_L_law (mL4 3 rfl) rfl ?_
  refine ex_iload ok_L_law (mL4 4 rfl) rfl ?_
  refine ex_iconst ok_L_law (mL4 5 rfl) ?_
  refine ex_iadd ok_L_law (mL4 6 rfl) ?_
  refine ex_top (w := nI (i + 2)) (nI_add _ 2) ?_
  refine lw_ld ok_L_law (mL4 7 rfl) w.2.2.2.2.1.1 w.2.2.2.2.1.2 hL (by omega) (w.2.2.2.2.2 (i + 2) (by omega)) ?_
  refine ex_aload_n ok_L_law (mL4 8 rfl) rfl ?_
  refine ex_iload ok_L_law (mL4 9 rfl) rfl ?_
  refine ex_iconst ok_L_law (mL4 10 rfl) ?_
  refine ex_iadd ok_L_law (mL4 11 rfl) ?_
  refine ex_top (w := nI (i + 3)) (nI_add _ 3) ?_
  refine lw_ld ok_L_law (mL4 12 rfl) w.2.2.2.2.1.1 w.2.2.2.2.1.2 hL (by omega) (w.2.2.2.2.2 (i + 3) (by omega)) ?_
  refine ex_if_eq (tgt := 474) ok_L_law (mL4 13 rfl) rfl (fun _ => ?_) (fun hn => absurd e3 hn)
  refine ex_iconst ok_L_law (mL4 16 rfl) ?_
  refine ex_aload_n ok_L_law (mL4 17 rfl) rfl ?_
  refine ex_callSHs (As := [_, _, _, _, _]) ok_L_law (mL4 18 rfl) rfl cl rfl rfl rfl (by decide) (Nat.le_of_ble_eq_true rfl) ⟨hmc, hms⟩ (fun z1 h1 hl => ?_)
  obtain ⟨rfl, o1, w1⟩ := hl
  refine ex_istore ok_L_law (mL4 19 rfl) ?_
  refine ex_aload_n ok_L_law (mL4 20 rfl) rfl ?_
  refine ex_aload_n ok_L_law (mL4 21 rfl) rfl ?_
  refine ex_iload ok_L_law (mL4 22 rfl) rfl ?_
  refine ex_iconst ok_L_law (mL4 23 rfl) ?_
  refine ex_iadd ok_L_law (mL4 24 rfl) ?_
  refine ex_top (w := nI (i + 1)) (nI_add _ 1) ?_
  refine lw_ld ok_L_law (mL4 25 rfl) w1.2.2.2.2.1.1 w1.2.2.2.2.1.2 hL (by omega) (w1.2.2.2.2.2 (i + 1) (by omega)) ?_
  refine ex_aload_n ok_L_law (mL4 26 rfl) rfl ?_
  refine ex_iload ok_L_law (mL4 27 rfl) rfl ?_
  refine ex_iconst ok_L_law (mL4 28 rfl) ?_
  refine ex_iadd ok_L_law (mL4 29 rfl) ?_
  refine ex_top (w := nI (i + 2)) (nI_add _ 2) ?_
  refine lw_ld ok_L_law (mL4 30 rfl) w1.2.2.2.2.1.1 w1.2.2.2.2.1.2 hL (by omega) (w1.2.2.2.2.2 (i + 2) (by omega)) ?_
  refine ex_aload_n ok_L_law (mL4 31 rfl) rfl ?_
  refine ex_iload ok_L_law (mL4 32 rfl) rfl ?_
  refine ex_iconst ok_L_law (mL4 33 rfl) ?_
  refine ex_iadd ok_L_law (mL4 34 rfl) ?_
  refine ex_top (w := nI (i + 3)) (nI_add _ 3) ?_
  refine lw_ld ok_L_law (mL4 35 rfl) w1.2.2.2.2.1.1 w1.2.2.2.2.1.2 hL (by omega) (w1.2.2.2.2.2 (i + 3) (by omega)) ?_
  refine ex_if_eq (tgt := 507) ok_L_law (mL4 36 rfl) rfl (fun _ => ?_) (fun hn => absurd e3 hn)
  refine ex_iconst ok_L_law (mL4 39 rfl) ?_
  refine sm_V (As := [_, _, _]) ok_L_law (mL4 40 rfl) rfl (cm h1 w1) rfl (fk (x := x + 892) (a := 0) (MI_s w1.2.1) 0 rfl) rfl rfl (by decide) (by decide) (Nat.le_of_ble_eq_true rfl) ⟨Nat.zero_le _, Nat.zero_le _⟩ UMP_no (fun z2 h2 hm => ?_)
  obtain ⟨e2, t2, o2, w2⟩ := hm
  cases e2
  refine ex_istore ok_L_law (mL4 41 rfl) ?_
  refine ex_aload_n ok_L_law (mL4 42 rfl) rfl ?_
  refine ex_callVr (As := []) ok_L_law (mL4 43 rfl) rfl (s_X12_thrown hst (fk (x := x + 892) (a := 0) (MI_s w2.2.1) 0 rfl) t2) rfl (fk (x := x + 892) (a := 0) (MI_s w2.2.1) 0 rfl) rfl rfl (by decide) (by decide) (Nat.le_of_ble_eq_true rfl) ⟨Nat.zero_le _, Nat.zero_le _⟩ ?_
  refine ex_iload ok_L_law (mL4 44 rfl) rfl ?_
  refine ex_icmp_eq (tgt := 524) ok_L_law (mL4 45 rfl) rfl (fun _ => ?_) (fun hn => absurd rfl hn)
  refine ex_iload ok_L_law (mL4 48 rfl) rfl ?_
  refine ex_if_ne (tgt := 548) ok_L_law (mL4 49 rfl) rfl (fun hn => absurd (by decide) hn) (fun _ => ?_)
  refine ex_aload_n ok_L_law (mL4 50 rfl) rfl ?_
  refine ex_iconst ok_L_law (mL4 51 rfl) ?_
  refine ex_laldx (v := Int64.ofNat 0) ok_L_law (mL4 52 rfl) w2.2.2.1.1 w2.2.2.1.2 (pk_in 0 1 (by decide)) (o2.trans (o1 rfl)) ?_
  refine ex_iload ok_L_law (mL4 53 rfl) rfl ?_
  refine ex_if_eq (tgt := 541) ok_L_law (mL4 54 rfl) rfl (fun _ => ?_) (fun hn => absurd (by decide) hn)
  refine ex_lconst ok_L_law (mL4 57 rfl) ?_
  refine ex_lcmp ok_L_law (mL4 58 rfl) ?_
  refine ex_top (w := 0) (by decide) ?_
  refine ex_if_eq (tgt := 548) ok_L_law (mL4 59 rfl) rfl (fun _ => ?_) (fun hn => absurd rfl hn)
  refine ex_goto (tgt := 1006) ok_L_law (mL5 2 rfl) rfl ?_
  exact ex_ls (ls' := [(0, .ref s), (1, .ref x), (2, .ref (x + 892)), (3, .ref o), (4, .int (nI i))]) ⟨rfl, rfl, rfl, rfl, rfl, trivial⟩ (hq _ w2)
theorem w_up_0_0_1 {G : GE} (hst : (ge_l G).stackTraces = false) {x o s L i mc ms : Nat} {h : GT} {Q : RT → GT → Prop} {xs u d : Nat → Int32} (hL : L ≤ 2048) (hi : i + 4 ≤ L) (w : LB h x o s L xs u d) (hmc : 4 ≤ mc) (hms : 24 ≤ ms) {u' d' : Nat → Int32} (e3 :  xs (i + 3) = 0) (cl : ex_MH G 4 4 24 my_L_up [.ref x, .int (xs (i + 1)), .int (xs (i + 2)), .int (nI 0), .ref o] h (fun r h' => ∃ z, r = .inl z ∧ (z = some (.int (nI 0)) ∧ ((0 : Nat) = 0 → gx_L h' o 0 = Int64.ofNat 1) ∧ LB h' x o s L xs u' d))) (cm : ∀ h', LB h' x o s L xs u' d → ex_M G 2 0 0 my_X12_up [.ref (x + 892), .int (xs (i + 1)), .int (xs (i + 2)), .int (nI 0)] h' (UMP x o s L xs u' d' 0 1 h')) (hq : ∀ h, LB h x o s L xs u' d' → ex_W G 10 (mc - 4) (ms - 24) M_L_law 1006 [(0, .ref s), (1, .ref x), (2, .ref (x + 892)), (3, .ref o), (4, .int (nI i))] [] h Q) : ex_W G 10 mc ms M_L_law 448 [(0, .ref s), (1, .ref x), (2, .ref (x + 892)), (3, .ref o), (4, .int (nI i))] [] h Q := by
  refine ex_aload_n ok_L_law (mL3 57 rfl) rfl ?_
  refine ex_aload_n ok_L_law (mL3 58 rfl) rfl ?_
  refine ex_iload ok_L_law (mL3 59 rfl) rfl ?_
  refine ex_iconst ok_L_law (mL4 0 rfl) ?_
  refine ex_iadd ok_L_law (mL4 1 rfl) ?_
  refine ex_top (w := nI (i + 1)) (nI_add _ 1) ?_
  refine lw_ld ok_L_law (mL4 2 rfl) w.2.2.2.2.1.1 w.2.2.2.2.1.2 hL (by omega) (w.2.2.2.2.2 (i + 1) (by omega)) ?_
  refine ex_aload_n ok_L_law (mL4 3 rfl) rfl ?_
  refine ex_iload ok_L_law (mL4 4 rfl) rfl ?_
  refine ex_iconst ok_L_law (mL4 5 rfl) ?_
  refine ex_iadd ok_L_law (mL4 6 rfl) ?_
  refine ex_top (w := nI (i + 2)) (nI_add _ 2) ?_
  refine lw_ld ok_L_law (mL4 7 rfl) w.2.2.2.2.1.1 w.2.2.2.2.1.2 hL (by omega) (w.2.2.2.2.2 (i + 2) (by omega)) ?_
  refine ex_aload_n ok_L_law (mL4 8 rfl) rfl ?_
  refine ex_iload ok_L_law (mL4 9 rfl) rfl ?_
  refine ex_iconst ok_L_law (mL4 10 rfl) ?_
  refine ex_iadd ok_L_law (mL4 11 rfl) ?_
  refine ex_top (w := nI (i + 3)) (nI_add _ 3) ?_
  refine lw_ld ok_L_law (mL4 12 rfl) w.2.2.2.2.1.1 w.2.2.2.2.1.2 hL (by omega) (w.2.2.2.2.2 (i + 3) (by omega)) ?_
  refine ex_if_eq (tgt := 474) ok_L_law (mL4 13 rfl) rfl (fun _ => ?_) (fun hn => absurd e3 hn)
  refine ex_iconst ok_L_law (mL4 16 rfl) ?_
  refine ex_aload_n ok_L_law (mL4 17 rfl) rfl ?_
  refine ex_callSHs (As := [_, _, _, _, _]) ok_L_law (mL4 18 rfl) rfl cl rfl rfl rfl (by decide) (Nat.le_of_ble_eq_true rfl) ⟨hmc, hms⟩ (fun z1 h1 hl => ?_)
  obtain ⟨rfl, o1, w1⟩ := hl
  refine ex_istore ok_L_law (mL4 19 rfl) ?_
  refine ex_aload_n ok_L_law (mL4 20 rfl) rfl ?_
  refine ex_aload_n ok_L_law (mL4 21 rfl) rfl ?_
  refine ex_iload ok_L_law (mL4 22 rfl) rfl ?_
  refine ex_iconst ok_L_law (mL4 23 rfl) ?_
  refine ex_iadd ok_L_law (mL4 24 rfl) ?_
  refine ex_top (w := nI (i + 1)) (nI_add _ 1) ?_
  refine lw_ld ok_L_law (mL4 25 rfl) w1.2.2.2.2.1.1 w1.2.2.2.2.1.2 hL (by omega) (w1.2.2.2.2.2 (i + 1) (by omega)) ?_
  refine ex_aload_n ok_L_law (mL4 26 rfl) rfl ?_
  refine ex_iload ok_L_law (mL4 27 rfl) rfl ?_
  refine ex_iconst ok_L_law (mL4 28 rfl) ?_
  refine ex_iadd ok_L_law (mL4 29 rfl) ?_
  refine ex_top (w := nI (i + 2)) (nI_add _ 2) ?_
  refine lw_ld ok_L_law (mL4 30 rfl) w1.2.2.2.2.1.1 w1.2.2.2.2.1.2 hL (by omega) (w1.2.2.2.2.2 (i + 2) (by omega)) ?_
  refine ex_aload_n ok_L_law (mL4 31 rfl) rfl ?_
  refine ex_iload ok_L_law (mL4 32 rfl) rfl ?_
  refine ex_iconst ok_L_law (mL4 33 rfl) ?_
  refine ex_iadd ok_L_law (mL4 34 rfl) ?_
  refine ex_top (w := nI (i + 3)) (nI_add _ 3) ?_
  refine lw_ld ok_L_law (mL4 35 rfl) w1.2.2.2.2.1.1 w1.2.2.2.2.1.2 hL (by omega) (w1.2.2.2.2.2 (i + 3) (by omega)) ?_
  refine ex_if_eq (tgt := 507) ok_L_law (mL4 36 rfl) rfl (fun _ => ?_) (fun hn => absurd e3 hn)
  refine ex_iconst ok_L_law (mL4 39 rfl) ?_
  refine sm_V (As := [_, _, _]) ok_L_law (mL4 40 rfl) rfl (cm h1 w1) rfl (fk (x := x + 892) (a := 0) (MI_s w1.2.1) 0 rfl) rfl rfl (by decide) (by decide) (Nat.le_of_ble_eq_true rfl) ⟨Nat.zero_le _, Nat.zero_le _⟩ UMP_no (fun z2 h2 hm => ?_)
  obtain ⟨e2, t2, o2, w2⟩ := hm
  cases e2
  refine ex_istore ok_L_law (mL4 41 rfl) ?_
  refine ex_aload_n ok_L_law (mL4 42 rfl) rfl ?_
  refine ex_callVr (As := []) ok_L_law (mL4 43 rfl) rfl (s_X12_thrown hst (fk (x := x + 892) (a := 0) (MI_s w2.2.1) 0 rfl) t2) rfl (fk (x := x + 892) (a := 0) (MI_s w2.2.1) 0 rfl) rfl rfl (by decide) (by decide) (Nat.le_of_ble_eq_true rfl) ⟨Nat.zero_le _, Nat.zero_le _⟩ ?_
  refine ex_iload ok_L_law (mL4 44 rfl) rfl ?_
  refine ex_icmp_eq (tgt := 524) ok_L_law (mL4 45 rfl) rfl (fun _ => ?_) (fun hn => absurd rfl hn)
  refine ex_iload ok_L_law (mL4 48 rfl) rfl ?_
  refine ex_if_ne (tgt := 548) ok_L_law (mL4 49 rfl) rfl (fun hn => absurd (by decide) hn) (fun _ => ?_)
  refine ex_aload_n ok_L_law (mL4 50 rfl) rfl ?_
  refine ex_iconst ok_L_law (mL4 51 rfl) ?_
  refine ex_laldx (v := Int64.ofNat 1) ok_L_law (mL4 52 rfl) w2.2.2.1.1 w2.2.2.1.2 (pk_in 0 1 (by decide)) (o2.trans (o1 rfl)) ?_
  refine ex_iload ok_L_law (mL4 53 rfl) rfl ?_
  refine ex_if_eq (tgt := 541) ok_L_law (mL4 54 rfl) rfl (fun hn => absurd hn (by decide)) (fun _ => ?_)
  refine ex_lconst ok_L_law (mL4 55 rfl) ?_
  refine ex_goto (tgt := 542) ok_L_law (mL4 56 rfl) rfl ?_
  refine ex_lcmp ok_L_law (mL4 58 rfl) ?_
  refine ex_top (w := 0) (by decide) ?_
  refine ex_if_eq (tgt := 548) ok_L_law (mL4 59 rfl) rfl (fun _ => ?_) (fun hn => absurd rfl hn)
  refine ex_goto (tgt := 1006) ok_L_law (mL5 2 rfl) rfl ?_
  exact ex_ls (ls' := [(0, .ref s), (1, .ref x), (2, .ref (x + 892)), (3, .ref o), (4, .int (nI i))]) ⟨rfl, rfl, rfl, rfl, rfl, trivial⟩ (hq _ w2)
theorem w_up_0_1_0 {G : GE} (hst : (ge_l G).stackTraces = false) {x o s L i mc ms : Nat} {h : GT} {Q : RT → GT → Prop} {xs u d : Nat → Int32} (hL : L ≤ 2048) (hi : i + 4 ≤ L) (w : LB h x o s L xs u d) (hmc : 4 ≤ mc) (hms : 24 ≤ ms) {u' d' : Nat → Int32} (e3 :  xs (i + 3) = 0) (cl : ex_MH G 4 4 24 my_L_up [.ref x, .int (xs (i + 1)), .int (xs (i + 2)), .int (nI 0), .ref o] h (fun r h' => ∃ z, r = .inl z ∧ (z = some (.int (nI 1)) ∧ ((1 : Nat) = 0 → gx_L h' o 0 = Int64.ofNat 0) ∧ LB h' x o s L xs u' d))) (cm : ∀ h', LB h' x o s L xs u' d → ex_M G 2 0 0 my_X12_up [.ref (x + 892), .int (xs (i + 1)), .int (xs (i + 2)), .int (nI 0)] h' (UMP x o s L xs u' d' 1 0 h')) (hq : ∀ h, LB h x o s L xs u' d' → ex_W G 10 (mc - 4) (ms - 24) M_L_law 1006 [(0, .ref s), (1, .ref x), (2, .ref (x + 892)), (3, .ref o), (4, .int (nI i))] [] h Q) : ex_W G 10 mc ms M_L_law 448 [(0, .ref s), (1, .ref x), (2, .ref (x + 892)), (3, .ref o), (4, .int (nI i))] [] h Q := by
  refine ex_aload_n ok_L_law (mL3 57 rfl) rfl ?_
  refine ex_aload_n ok_L_law (mL3 58 rfl) rfl ?_
  refine ex_iload ok_L_law (mL3 59 rfl) rfl ?_
  refine ex_iconst ok_L_law (mL4 0 rfl) ?_
  refine ex_iadd ok_L_law (mL4 1 rfl) ?_
  refine ex_top (w := nI (i + 1)) (nI_add _ 1) ?_
  refine lw_ld ok_L_law (mL4 2 rfl) w.2.2.2.2.1.1 w.2.2.2.2.1.2 hL (by omega) (w.2.2.2.2.2 (i + 1) (by omega)) ?_
  refine ex_aload_n ok_L_law (mL4 3 rfl) rfl ?_
  refine ex_iload ok_L_law (mL4 4 rfl) rfl ?_
  refine ex_iconst ok_L_law (mL4 5 rfl) ?_
  refine ex_iadd ok_L_law (mL4 6 rfl) ?_
  refine ex_top (w := nI (i + 2)) (nI_add _ 2) ?_
  refine lw_ld ok_L_law (mL4 7 rfl) w.2.2.2.2.1.1 w.2.2.2.2.1.2 hL (by omega) (w.2.2.2.2.2 (i + 2) (by omega)) ?_
  refine ex_aload_n ok_L_law (mL4 8 rfl) rfl ?_
  refine ex_iload ok_L_law (mL4 9 rfl) rfl ?_
  refine ex_iconst ok_L_law (mL4 10 rfl) ?_
  refine ex_iadd ok_L_law (mL4 11 rfl) ?_
  refine ex_top (w := nI (i + 3)) (nI_add _ 3) ?_
  refine lw_ld ok_L_law (mL4 12 rfl) w.2.2.2.2.1.1 w.2.2.2.2.1.2 hL (by omega) (w.2.2.2.2.2 (i + 3) (by omega)) ?_
  refine ex_if_eq (tgt := 474) ok_L_law (mL4 13 rfl) rfl (fun _ => ?_) (fun hn => absurd e3 hn)
  refine ex_iconst ok_L_law (mL4 16 rfl) ?_
  refine ex_aload_n ok_L_law (mL4 17 rfl) rfl ?_
  refine ex_callSHs (As := [_, _, _, _, _]) ok_L_law (mL4 18 rfl) rfl cl rfl rfl rfl (by decide) (Nat.le_of_ble_eq_true rfl) ⟨hmc, hms⟩ (fun z1 h1 hl => ?_)
  obtain ⟨rfl, o1, w1⟩ := hl
  refine ex_istore ok_L_law (mL4 19 rfl) ?_
  refine ex_aload_n ok_L_law (mL4 20 rfl) rfl ?_
  refine ex_aload_n ok_L_law (mL4 21 rfl) rfl ?_
  refine ex_iload ok_L_law (mL4 22 rfl) rfl ?_
  refine ex_iconst ok_L_law (mL4 23 rfl) ?_
  refine ex_iadd ok_L_law (mL4 24 rfl) ?_
  refine ex_top (w := nI (i + 1)) (nI_add _ 1) ?_
  refine lw_ld ok_L_law (mL4 25 rfl) w1.2.2.2.2.1.1 w1.2.2.2.2.1.2 hL (by omega) (w1.2.2.2.2.2 (i + 1) (by omega)) ?_
  refine ex_aload_n ok_L_law (mL4 26 rfl) rfl ?_
  refine ex_iload ok_L_law (mL4 27 rfl) rfl ?_
  refine ex_iconst ok_L_law (mL4 28 rfl) ?_
  refine ex_iadd ok_L_law (mL4 29 rfl) ?_
  refine ex_top (w := nI (i + 2)) (nI_add _ 2) ?_
  refine lw_ld ok_L_law (mL4 30 rfl) w1.2.2.2.2.1.1 w1.2.2.2.2.1.2 hL (by omega) (w1.2.2.2.2.2 (i + 2) (by omega)) ?_
  refine ex_aload_n ok_L_law (mL4 31 rfl) rfl ?_
  refine ex_iload ok_L_law (mL4 32 rfl) rfl ?_
  refine ex_iconst ok_L_law (mL4 33 rfl) ?_
  refine ex_iadd ok_L_law (mL4 34 rfl) ?_
  refine ex_top (w := nI (i + 3)) (nI_add _ 3) ?_
  refine lw_ld ok_L_law (mL4 35 rfl) w1.2.2.2.2.1.1 w1.2.2.2.2.1.2 hL (by omega) (w1.2.2.2.2.2 (i + 3) (by omega)) ?_
  refine ex_if_eq (tgt := 507) ok_L_law (mL4 36 rfl) rfl (fun _ => ?_) (fun hn => absurd e3 hn)
  refine ex_iconst ok_L_law (mL4 39 rfl) ?_
  refine sm_V (As := [_, _, _]) ok_L_law (mL4 40 rfl) rfl (cm h1 w1) rfl (fk (x := x + 892) (a := 0) (MI_s w1.2.1) 0 rfl) rfl rfl (by decide) (by decide) (Nat.le_of_ble_eq_true rfl) ⟨Nat.zero_le _, Nat.zero_le _⟩ UMP_no (fun z2 h2 hm => ?_)
  obtain ⟨e2, t2, o2, w2⟩ := hm
  cases e2
  refine ex_istore ok_L_law (mL4 41 rfl) ?_
  refine ex_aload_n ok_L_law (mL4 42 rfl) rfl ?_
  refine ex_callVr (As := []) ok_L_law (mL4 43 rfl) rfl (s_X12_thrown hst (fk (x := x + 892) (a := 0) (MI_s w2.2.1) 0 rfl) t2) rfl (fk (x := x + 892) (a := 0) (MI_s w2.2.1) 0 rfl) rfl rfl (by decide) (by decide) (Nat.le_of_ble_eq_true rfl) ⟨Nat.zero_le _, Nat.zero_le _⟩ ?_
  refine ex_iload ok_L_law (mL4 44 rfl) rfl ?_
  refine ex_icmp_eq (tgt := 524) ok_L_law (mL4 45 rfl) rfl (fun _ => ?_) (fun hn => absurd rfl hn)
  refine ex_iload ok_L_law (mL4 48 rfl) rfl ?_
  refine ex_if_ne (tgt := 548) ok_L_law (mL4 49 rfl) rfl (fun _ => ?_) (fun hn => absurd hn (by decide))
  refine ex_goto (tgt := 1006) ok_L_law (mL5 2 rfl) rfl ?_
  exact ex_ls (ls' := [(0, .ref s), (1, .ref x), (2, .ref (x + 892)), (3, .ref o), (4, .int (nI i))]) ⟨rfl, rfl, rfl, rfl, rfl, trivial⟩ (hq _ w2)
theorem w_up_1_0_0 {G : GE} (hst : (ge_l G).stackTraces = false) {x o s L i mc ms : Nat} {h : GT} {Q : RT → GT → Prop} {xs u d : Nat → Int32} (hL : L ≤ 2048) (hi : i + 4 ≤ L) (w : LB h x o s L xs u d) (hmc : 4 ≤ mc) (hms : 24 ≤ ms) {u' d' : Nat → Int32} (e3 : ¬ xs (i + 3) = 0) (cl : ex_MH G 4 4 24 my_L_up [.ref x, .int (xs (i + 1)), .int (xs (i + 2)), .int (nI 1), .ref o] h (fun r h' => ∃ z, r = .inl z ∧ (z = some (.int (nI 0)) ∧ ((0 : Nat) = 0 → gx_L h' o 0 = Int64.ofNat 0) ∧ LB h' x o s L xs u' d))) (cm : ∀ h', LB h' x o s L xs u' d → ex_M G 2 0 0 my_X12_up [.ref (x + 892), .int (xs (i + 1)), .int (xs (i + 2)), .int (nI 1)] h' (UMP x o s L xs u' d' 0 0 h')) (hq : ∀ h, LB h x o s L xs u' d' → ex_W G 10 (mc - 4) (ms - 24) M_L_law 1006 [(0, .ref s), (1, .ref x), (2, .ref (x + 892)), (3, .ref o), (4, .int (nI i))] [] h Q) : ex_W G 10 mc ms M_L_law 448 [(0, .ref s), (1, .ref x), (2, .ref (x + 892)), (3, .ref o), (4, .int (nI i))] [] h Q := by
  refine ex_aload_n ok_L_law (mL3 57 rfl) rfl ?_
  refine ex_aload_n ok_L_law (mL3 58 rfl) rfl ?_
  refine ex_iload ok_L_law (mL3 59 rfl) rfl ?_
  refine ex_iconst ok_L_law (mL4 0 rfl) ?_
  refine ex_iadd ok_L_law (mL4 1 rfl) ?_
  refine ex_top (w := nI (i + 1)) (nI_add _ 1) ?_
  refine lw_ld ok_L_law (mL4 2 rfl) w.2.2.2.2.1.1 w.2.2.2.2.1.2 hL (by omega) (w.2.2.2.2.2 (i + 1) (by omega)) ?_
  refine ex_aload_n ok_L_law (mL4 3 rfl) rfl ?_
  refine ex_iload ok_L_law (mL4 4 rfl) rfl ?_
  refine ex_iconst ok_L_law (mL4 5 rfl) ?_
  refine ex_iadd ok_L_law (mL4 6 rfl) ?_
  refine ex_top (w := nI (i + 2)) (nI_add _ 2) ?_
  refine lw_ld ok_L_law (mL4 7 rfl) w.2.2.2.2.1.1 w.2.2.2.2.1.2 hL (by omega) (w.2.2.2.2.2 (i + 2) (by omega)) ?_
  refine ex_aload_n ok_L_law (mL4 8 rfl) rfl ?_
  refine ex_iload ok_L_law (mL4 9 rfl) rfl ?_
  refine ex_iconst ok_L_law (mL4 10 rfl) ?_
  refine ex_iadd ok_L_law (mL4 11 rfl) ?_
  refine ex_top (w := nI (i + 3)) (nI_add _ 3) ?_
  refine lw_ld ok_L_law (mL4 12 rfl) w.2.2.2.2.1.1 w.2.2.2.2.1.2 hL (by omega) (w.2.2.2.2.2 (i + 3) (by omega)) ?_
  refine ex_if_eq (tgt := 474) ok_L_law (mL4 13 rfl) rfl (fun hn => absurd hn e3) (fun _ => ?_)
  refine ex_iconst ok_L_law (mL4 14 rfl) ?_
  refine ex_goto (tgt := 475) ok_L_law (mL4 15 rfl) rfl ?_
  refine ex_aload_n ok_L_law (mL4 17 rfl) rfl ?_
  refine ex_callSHs (As := [_, _, _, _, _]) ok_L_law (mL4 18 rfl) rfl cl rfl rfl rfl (by decide) (Nat.le_of_ble_eq_true rfl) ⟨hmc, hms⟩ (fun z1 h1 hl => ?_)
  obtain ⟨rfl, o1, w1⟩ := hl
  refine ex_istore ok_L_law (mL4 19 rfl) ?_
  refine ex_aload_n ok_L_law (mL4 20 rfl) rfl ?_
  refine ex_aload_n ok_L_law (mL4 21 rfl) rfl ?_
  refine ex_iload ok_L_law (mL4 22 rfl) rfl ?_
  refine ex_iconst ok_L_law (mL4 23 rfl) ?_
  refine ex_iadd ok_L_law (mL4 24 rfl) ?_
  refine ex_top (w := nI (i + 1)) (nI_add _ 1) ?_
  refine lw_ld ok_L_law (mL4 25 rfl) w1.2.2.2.2.1.1 w1.2.2.2.2.1.2 hL (by omega) (w1.2.2.2.2.2 (i + 1) (by omega)) ?_
  refine ex_aload_n ok_L_law (mL4 26 rfl) rfl ?_
  refine ex_iload ok_L_law (mL4 27 rfl) rfl ?_
  refine ex_iconst ok_L_law (mL4 28 rfl) ?_
  refine ex_iadd ok_L_law (mL4 29 rfl) ?_
  refine ex_top (w := nI (i + 2)) (nI_add _ 2) ?_
  refine lw_ld ok_L_law (mL4 30 rfl) w1.2.2.2.2.1.1 w1.2.2.2.2.1.2 hL (by omega) (w1.2.2.2.2.2 (i + 2) (by omega)) ?_
  refine ex_aload_n ok_L_law (mL4 31 rfl) rfl ?_
  refine ex_iload ok_L_law (mL4 32 rfl) rfl ?_
  refine ex_iconst ok_L_law (mL4 33 rfl) ?_
  refine ex_iadd ok_L_law (mL4 34 rfl) ?_
  refine ex_top (w := nI (i + 3)) (nI_add _ 3) ?_
  refine lw_ld ok_L_law (mL4 35 rfl) w1.2.2.2.2.1.1 w1.2.2.2.2.1.2 hL (by omega) (w1.2.2.2.2.2 (i + 3) (by omega)) ?_
  refine ex_if_eq (tgt := 507) ok_L_law (mL4 36 rfl) rfl (fun hn => absurd hn e3) (fun _ => ?_)
  refine ex_iconst ok_L_law (mL4 37 rfl) ?_
  refine ex_goto (tgt := 508) ok_L_law (mL4 38 rfl) rfl ?_
  refine sm_V (As := [_, _, _]) ok_L_law (mL4 40 rfl) rfl (cm h1 w1) rfl (fk (x := x + 892) (a := 0) (MI_s w1.2.1) 0 rfl) rfl rfl (by decide) (by decide) (Nat.le_of_ble_eq_true rfl) ⟨Nat.zero_le _, Nat.zero_le _⟩ UMP_no (fun z2 h2 hm => ?_)
  obtain ⟨e2, t2, o2, w2⟩ := hm
  cases e2
  refine ex_istore ok_L_law (mL4 41 rfl) ?_
  refine ex_aload_n ok_L_law (mL4 42 rfl) rfl ?_
  refine ex_callVr (As := []) ok_L_law (mL4 43 rfl) rfl (s_X12_thrown hst (fk (x := x + 892) (a := 0) (MI_s w2.2.1) 0 rfl) t2) rfl (fk (x := x + 892) (a := 0) (MI_s w2.2.1) 0 rfl) rfl rfl (by decide) (by decide) (Nat.le_of_ble_eq_true rfl) ⟨Nat.zero_le _, Nat.zero_le _⟩ ?_
  refine ex_iload ok_L_law (mL4 44 rfl) rfl ?_
  refine ex_icmp_eq (tgt := 524) ok_L_law (mL4 45 rfl) rfl (fun _ => ?_) (fun hn => absurd rfl hn)
  refine ex_iload ok_L_law (mL4 48 rfl) rfl ?_
  refine ex_if_ne (tgt := 548) ok_L_law (mL4 49 rfl) rfl (fun hn => absurd (by decide) hn) (fun _ => ?_)
  refine ex_aload_n ok_L_law (mL4 50 rfl) rfl ?_
  refine ex_iconst ok_L_law (mL4 51 rfl) ?_
  refine ex_laldx (v := Int64.ofNat 0) ok_L_law (mL4 52 rfl) w2.2.2.1.1 w2.2.2.1.2 (pk_in 0 1 (by decide)) (o2.trans (o1 rfl)) ?_
  refine ex_iload ok_L_law (mL4 53 rfl) rfl ?_
  refine ex_if_eq (tgt := 541) ok_L_law (mL4 54 rfl) rfl (fun _ => ?_) (fun hn => absurd (by decide) hn)
  refine ex_lconst ok_L_law (mL4 57 rfl) ?_
  refine ex_lcmp ok_L_law (mL4 58 rfl) ?_
  refine ex_top (w := 0) (by decide) ?_
  refine ex_if_eq (tgt := 548) ok_L_law (mL4 59 rfl) rfl (fun _ => ?_) (fun hn => absurd rfl hn)
  refine ex_goto (tgt := 1006) ok_L_law (mL5 2 rfl) rfl ?_
  exact ex_ls (ls' := [(0, .ref s), (1, .ref x), (2, .ref (x + 892)), (3, .ref o), (4, .int (nI i))]) ⟨rfl, rfl, rfl, rfl, rfl, trivial⟩ (hq _ w2)
theorem w_up_1_0_1 {G : GE} (hst : (ge_l G).stackTraces = false) {x o s L i mc ms : Nat} {h : GT} {Q : RT → GT → Prop} {xs u d : Nat → Int32} (hL : L ≤ 2048) (hi : i + 4 ≤ L) (w : LB h x o s L xs u d) (hmc : 4 ≤ mc) (hms : 24 ≤ ms) {u' d' : Nat → Int32} (e3 : ¬ xs (i + 3) = 0) (cl : ex_MH G 4 4 24 my_L_up [.ref x, .int (xs (i + 1)), .int (xs (i + 2)), .int (nI 1), .ref o] h (fun r h' => ∃ z, r = .inl z ∧ (z = some (.int (nI 0)) ∧ ((0 : Nat) = 0 → gx_L h' o 0 = Int64.ofNat 1) ∧ LB h' x o s L xs u' d))) (cm : ∀ h', LB h' x o s L xs u' d → ex_M G 2 0 0 my_X12_up [.ref (x + 892), .int (xs (i + 1)), .int (xs (i + 2)), .int (nI 1)] h' (UMP x o s L xs u' d' 0 1 h')) (hq : ∀ h, LB h x o s L xs u' d' → ex_W G 10 (mc - 4) (ms - 24) M_L_law 1006 [(0, .ref s), (1, .ref x), (2, .ref (x + 892)), (3, .ref o), (4, .int (nI i))] [] h Q) : ex_W G 10 mc ms M_L_law 448 [(0, .ref s), (1, .ref x), (2, .ref (x + 892)), (3, .ref o), (4, .int (nI i))] [] h Q := by
  refine ex_aload_n ok_L_law (mL3 57 rfl) rfl ?_
  refine ex_aload_n ok_L_law (mL3 58 rfl) rfl ?_
  refine ex_iload ok_L_law (mL3 59 rfl) rfl ?_
  refine ex_iconst ok_L_law (mL4 0 rfl) ?_
  refine ex_iadd ok_L_law (mL4 1 rfl) ?_
  refine ex_top (w := nI (i + 1)) (nI_add _ 1) ?_
  refine lw_ld ok_L_law (mL4 2 rfl) w.2.2.2.2.1.1 w.2.2.2.2.1.2 hL (by omega) (w.2.2.2.2.2 (i + 1) (by omega)) ?_
  refine ex_aload_n ok_L_law (mL4 3 rfl) rfl ?_
  refine ex_iload ok_L_law (mL4 4 rfl) rfl ?_
  refine ex_iconst ok_L_law (mL4 5 rfl) ?_
  refine ex_iadd ok_L_law (mL4 6 rfl) ?_
  refine ex_top (w := nI (i + 2)) (nI_add _ 2) ?_
  refine lw_ld ok_L_law (mL4 7 rfl) w.2.2.2.2.1.1 w.2.2.2.2.1.2 hL (by omega) (w.2.2.2.2.2 (i + 2) (by omega)) ?_
  refine ex_aload_n ok_L_law (mL4 8 rfl) rfl ?_
  refine ex_iload ok_L_law (mL4 9 rfl) rfl ?_
  refine ex_iconst ok_L_law (mL4 10 rfl) ?_
  refine ex_iadd ok_L_law (mL4 11 rfl) ?_
  refine ex_top (w := nI (i + 3)) (nI_add _ 3) ?_
  refine lw_ld ok_L_law (mL4 12 rfl) w.2.2.2.2.1.1 w.2.2.2.2.1.2 hL (by omega) (w.2.2.2.2.2 (i + 3) (by omega)) ?_
  refine ex_if_eq (tgt := 474) ok_L_law (mL4 13 rfl) rfl (fun hn => absurd hn e3) (fun _ => ?_)
  refine ex_iconst ok_L_law (mL4 14 rfl) ?_
  refine ex_goto (tgt := 475) ok_L_law (mL4 15 rfl) rfl ?_
  refine ex_aload_n ok_L_law (mL4 17 rfl) rfl ?_
  refine ex_callSHs (As := [_, _, _, _, _]) ok_L_law (mL4 18 rfl) rfl cl rfl rfl rfl (by decide) (Nat.le_of_ble_eq_true rfl) ⟨hmc, hms⟩ (fun z1 h1 hl => ?_)
  obtain ⟨rfl, o1, w1⟩ := hl
  refine ex_istore ok_L_law (mL4 19 rfl) ?_
  refine ex_aload_n ok_L_law (mL4 20 rfl) rfl ?_
  refine ex_aload_n ok_L_law (mL4 21 rfl) rfl ?_
  refine ex_iload ok_L_law (mL4 22 rfl) rfl ?_
  refine ex_iconst ok_L_law (mL4 23 rfl) ?_
  refine ex_iadd ok_L_law (mL4 24 rfl) ?_
  refine ex_top (w := nI (i + 1)) (nI_add _ 1) ?_
  refine lw_ld ok_L_law (mL4 25 rfl) w1.2.2.2.2.1.1 w1.2.2.2.2.1.2 hL (by omega) (w1.2.2.2.2.2 (i + 1) (by omega)) ?_
  refine ex_aload_n ok_L_law (mL4 26 rfl) rfl ?_
  refine ex_iload ok_L_law (mL4 27 rfl) rfl ?_
  refine ex_iconst ok_L_law (mL4 28 rfl) ?_
  refine ex_iadd ok_L_law (mL4 29 rfl) ?_
  refine ex_top (w := nI (i + 2)) (nI_add _ 2) ?_
  refine lw_ld ok_L_law (mL4 30 rfl) w1.2.2.2.2.1.1 w1.2.2.2.2.1.2 hL (by omega) (w1.2.2.2.2.2 (i + 2) (by omega)) ?_
  refine ex_aload_n ok_L_law (mL4 31 rfl) rfl ?_
  refine ex_iload ok_L_law (mL4 32 rfl) rfl ?_
  refine ex_iconst ok_L_law (mL4 33 rfl) ?_
  refine ex_iadd ok_L_law (mL4 34 rfl) ?_
  refine ex_top (w := nI (i + 3)) (nI_add _ 3) ?_
  refine lw_ld ok_L_law (mL4 35 rfl) w1.2.2.2.2.1.1 w1.2.2.2.2.1.2 hL (by omega) (w1.2.2.2.2.2 (i + 3) (by omega)) ?_
  refine ex_if_eq (tgt := 507) ok_L_law (mL4 36 rfl) rfl (fun hn => absurd hn e3) (fun _ => ?_)
  refine ex_iconst ok_L_law (mL4 37 rfl) ?_
  refine ex_goto (tgt := 508) ok_L_law (mL4 38 rfl) rfl ?_
  refine sm_V (As := [_, _, _]) ok_L_law (mL4 40 rfl) rfl (cm h1 w1) rfl (fk (x := x + 892) (a := 0) (MI_s w1.2.1) 0 rfl) rfl rfl (by decide) (by decide) (Nat.le_of_ble_eq_true rfl) ⟨Nat.zero_le _, Nat.zero_le _⟩ UMP_no (fun z2 h2 hm => ?_)
  obtain ⟨e2, t2, o2, w2⟩ := hm
  cases e2
  refine ex_istore ok_L_law (mL4 41 rfl) ?_
  refine ex_aload_n ok_L_law (mL4 42 rfl) rfl ?_
  refine ex_callVr (As := []) ok_L_law (mL4 43 rfl) rfl (s_X12_thrown hst (fk (x := x + 892) (a := 0) (MI_s w2.2.1) 0 rfl) t2) rfl (fk (x := x + 892) (a := 0) (MI_s w2.2.1) 0 rfl) rfl rfl (by decide) (by decide) (Nat.le_of_ble_eq_true rfl) ⟨Nat.zero_le _, Nat.zero_le _⟩ ?_
  refine ex_iload ok_L_law (mL4 44 rfl) rfl ?_
  refine ex_icmp_eq (tgt := 524) ok_L_law (mL4 45 rfl) rfl (fun _ => ?_) (fun hn => absurd rfl hn)
  refine ex_iload ok_L_law (mL4 48 rfl) rfl ?_
  refine ex_if_ne (tgt := 548) ok_L_law (mL4 49 rfl) rfl (fun hn => absurd (by decide) hn) (fun _ => ?_)
  refine ex_aload_n ok_L_law (mL4 50 rfl) rfl ?_
  refine ex_iconst ok_L_law (mL4 51 rfl) ?_
  refine ex_laldx (v := Int64.ofNat 1) ok_L_law (mL4 52 rfl) w2.2.2.1.1 w2.2.2.1.2 (pk_in 0 1 (by decide)) (o2.trans (o1 rfl)) ?_
  refine ex_iload ok_L_law (mL4 53 rfl) rfl ?_
  refine ex_if_eq (tgt := 541) ok_L_law (mL4 54 rfl) rfl (fun hn => absurd hn (by decide)) (fun _ => ?_)
  refine ex_lconst ok_L_law (mL4 55 rfl) ?_
  refine ex_goto (tgt := 542) ok_L_law (mL4 56 rfl) rfl ?_
  refine ex_lcmp ok_L_law (mL4 58 rfl) ?_
  refine ex_top (w := 0) (by decide) ?_
  refine ex_if_eq (tgt := 548) ok_L_law (mL4 59 rfl) rfl (fun _ => ?_) (fun hn => absurd rfl hn)
  refine ex_goto (tgt := 1006) ok_L_law (mL5 2 rfl) rfl ?_
  exact ex_ls (ls' := [(0, .ref s), (1, .ref x), (2, .ref (x + 892)), (3, .ref o), (4, .int (nI i))]) ⟨rfl, rfl, rfl, rfl, rfl, trivial⟩ (hq _ w2)
theorem w_up_1_1_0 {G : GE} (hst : (ge_l G).stackTraces = false) {x o s L i mc ms : Nat} {h : GT} {Q : RT → GT → Prop} {xs u d : Nat → Int32} (hL : L ≤ 2048) (hi : i + 4 ≤ L) (w : LB h x o s L xs u d) (hmc : 4 ≤ mc) (hms : 24 ≤ ms) {u' d' : Nat → Int32} (e3 : ¬ xs (i + 3) = 0) (cl : ex_MH G 4 4 24 my_L_up [.ref x, .int (xs (i + 1)), .int (xs (i + 2)), .int (nI 1), .ref o] h (fun r h' => ∃ z, r = .inl z ∧ (z = some (.int (nI 1)) ∧ ((1 : Nat) = 0 → gx_L h' o 0 = Int64.ofNat 0) ∧ LB h' x o s L xs u' d))) (cm : ∀ h', LB h' x o s L xs u' d → ex_M G 2 0 0 my_X12_up [.ref (x + 892), .int (xs (i + 1)), .int (xs (i + 2)), .int (nI 1)] h' (UMP x o s L xs u' d' 1 0 h')) (hq : ∀ h, LB h x o s L xs u' d' → ex_W G 10 (mc - 4) (ms - 24) M_L_law 1006 [(0, .ref s), (1, .ref x), (2, .ref (x + 892)), (3, .ref o), (4, .int (nI i))] [] h Q) : ex_W G 10 mc ms M_L_law 448 [(0, .ref s), (1, .ref x), (2, .ref (x + 892)), (3, .ref o), (4, .int (nI i))] [] h Q := by
  refine ex_aload_n ok_L_law (mL3 57 rfl) rfl ?_
  refine ex_aload_n ok_L_law (mL3 58 rfl) rfl ?_
  refine ex_iload ok_L_law (mL3 59 rfl) rfl ?_
  refine ex_iconst ok_L_law (mL4 0 rfl) ?_
  refine ex_iadd ok_L_law (mL4 1 rfl) ?_
  refine ex_top (w := nI (i + 1)) (nI_add _ 1) ?_
  refine lw_ld ok_L_law (mL4 2 rfl) w.2.2.2.2.1.1 w.2.2.2.2.1.2 hL (by omega) (w.2.2.2.2.2 (i + 1) (by omega)) ?_
  refine ex_aload_n ok_L_law (mL4 3 rfl) rfl ?_
  refine ex_iload ok_L_law (mL4 4 rfl) rfl ?_
  refine ex_iconst ok_L_law (mL4 5 rfl) ?_
  refine ex_iadd ok_L_law (mL4 6 rfl) ?_
  refine ex_top (w := nI (i + 2)) (nI_add _ 2) ?_
  refine lw_ld ok_L_law (mL4 7 rfl) w.2.2.2.2.1.1 w.2.2.2.2.1.2 hL (by omega) (w.2.2.2.2.2 (i + 2) (by omega)) ?_
  refine ex_aload_n ok_L_law (mL4 8 rfl) rfl ?_
  refine ex_iload ok_L_law (mL4 9 rfl) rfl ?_
  refine ex_iconst ok_L_law (mL4 10 rfl) ?_
  refine ex_iadd ok_L_law (mL4 11 rfl) ?_
  refine ex_top (w := nI (i + 3)) (nI_add _ 3) ?_
  refine lw_ld ok_L_law (mL4 12 rfl) w.2.2.2.2.1.1 w.2.2.2.2.1.2 hL (by omega) (w.2.2.2.2.2 (i + 3) (by omega)) ?_
  refine ex_if_eq (tgt := 474) ok_L_law (mL4 13 rfl) rfl (fun hn => absurd hn e3) (fun _ => ?_)
  refine ex_iconst ok_L_law (mL4 14 rfl) ?_
  refine ex_goto (tgt := 475) ok_L_law (mL4 15 rfl) rfl ?_
  refine ex_aload_n ok_L_law (mL4 17 rfl) rfl ?_
  refine ex_callSHs (As := [_, _, _, _, _]) ok_L_law (mL4 18 rfl) rfl cl rfl rfl rfl (by decide) (Nat.le_of_ble_eq_true rfl) ⟨hmc, hms⟩ (fun z1 h1 hl => ?_)
  obtain ⟨rfl, o1, w1⟩ := hl
  refine ex_istore ok_L_law (mL4 19 rfl) ?_
  refine ex_aload_n ok_L_law (mL4 20 rfl) rfl ?_
  refine ex_aload_n ok_L_law (mL4 21 rfl) rfl ?_
  refine ex_iload ok_L_law (mL4 22 rfl) rfl ?_
  refine ex_iconst ok_L_law (mL4 23 rfl) ?_
  refine ex_iadd ok_L_law (mL4 24 rfl) ?_
  refine ex_top (w := nI (i + 1)) (nI_add _ 1) ?_
  refine lw_ld ok_L_law (mL4 25 rfl) w1.2.2.2.2.1.1 w1.2.2.2.2.1.2 hL (by omega) (w1.2.2.2.2.2 (i + 1) (by omega)) ?_
  refine ex_aload_n ok_L_law (mL4 26 rfl) rfl ?_
  refine ex_iload ok_L_law (mL4 27 rfl) rfl ?_
  refine ex_iconst ok_L_law (mL4 28 rfl) ?_
  refine ex_iadd ok_L_law (mL4 29 rfl) ?_
  refine ex_top (w := nI (i + 2)) (nI_add _ 2) ?_
  refine lw_ld ok_L_law (mL4 30 rfl) w1.2.2.2.2.1.1 w1.2.2.2.2.1.2 hL (by omega) (w1.2.2.2.2.2 (i + 2) (by omega)) ?_
  refine ex_aload_n ok_L_law (mL4 31 rfl) rfl ?_
  refine ex_iload ok_L_law (mL4 32 rfl) rfl ?_
  refine ex_iconst ok_L_law (mL4 33 rfl) ?_
  refine ex_iadd ok_L_law (mL4 34 rfl) ?_
  refine ex_top (w := nI (i + 3)) (nI_add _ 3) ?_
  refine lw_ld ok_L_law (mL4 35 rfl) w1.2.2.2.2.1.1 w1.2.2.2.2.1.2 hL (by omega) (w1.2.2.2.2.2 (i + 3) (by omega)) ?_
  refine ex_if_eq (tgt := 507) ok_L_law (mL4 36 rfl) rfl (fun hn => absurd hn e3) (fun _ => ?_)
  refine ex_iconst ok_L_law (mL4 37 rfl) ?_
  refine ex_goto (tgt := 508) ok_L_law (mL4 38 rfl) rfl ?_
  refine sm_V (As := [_, _, _]) ok_L_law (mL4 40 rfl) rfl (cm h1 w1) rfl (fk (x := x + 892) (a := 0) (MI_s w1.2.1) 0 rfl) rfl rfl (by decide) (by decide) (Nat.le_of_ble_eq_true rfl) ⟨Nat.zero_le _, Nat.zero_le _⟩ UMP_no (fun z2 h2 hm => ?_)
  obtain ⟨e2, t2, o2, w2⟩ := hm
  cases e2
  refine ex_istore ok_L_law (mL4 41 rfl) ?_
  refine ex_aload_n ok_L_law (mL4 42 rfl) rfl ?_
  refine ex_callVr (As := []) ok_L_law (mL4 43 rfl) rfl (s_X12_thrown hst (fk (x := x + 892) (a := 0) (MI_s w2.2.1) 0 rfl) t2) rfl (fk (x := x + 892) (a := 0) (MI_s w2.2.1) 0 rfl) rfl rfl (by decide) (by decide) (Nat.le_of_ble_eq_true rfl) ⟨Nat.zero_le _, Nat.zero_le _⟩ ?_
  refine ex_iload ok_L_law (mL4 44 rfl) rfl ?_
  refine ex_icmp_eq (tgt := 524) ok_L_law (mL4 45 rfl) rfl (fun _ => ?_) (fun hn => absurd rfl hn)
  refine ex_iload ok_L_law (mL4 48 rfl) rfl ?_
  refine ex_if_ne (tgt := 548) ok_L_law (mL4 49 rfl) rfl (fun _ => ?_) (fun hn => absurd hn (by decide))
  refine ex_goto (tgt := 1006) ok_L_law (mL5 2 rfl) rfl ?_
  exact ex_ls (ls' := [(0, .ref s), (1, .ref x), (2, .ref (x + 892)), (3, .ref o), (4, .int (nI i))]) ⟨rfl, rfl, rfl, rfl, rfl, trivial⟩ (hq _ w2)
theorem UMP_of {G : GE} {x o s L k v : Nat} {xs u d d' : Nat → Int32} {h : GT} {As : List Value} (w : LB h x o s L xs u d) {v' : Int32} (hv : v' = nI v) {k' : Int32} (hk : k' = nI k) (c : ex_M G 2 0 0 my_X12_up (.ref (x + 892) :: As) h (fun r g' => r = .inl (some (.int v')) ∧ gx_I g' 1200 (x + 892) = k' ∧ MI (x + 892) (d', h) 402 (fun _ => False) g')) : ex_M G 2 0 0 my_X12_up (.ref (x + 892) :: As) h (UMP x o s L xs u d' k v h) :=
  ex_M.mono c (fun r g' q => by
    obtain ⟨q1, q2, q3⟩ := q
    subst hv
    subst hk
    exact ⟨q1, q2, ((MI_fr q3) o (fun q => by have := q.2; have := w.2.2.2.1.2; omega)).2.2.2.2.2.1 0, LB_m w q3⟩)

theorem w_up {G : GE} (hst : (ge_l G).stackTraces = false) {x o s L i mc ms : Nat} {h : GT} {Q : RT → GT → Prop} {xs u d : Nat → Int32} (hL : L ≤ 2048) (hi : i + 4 ≤ L) (w : LB h x o s L xs u d) (hmc : 4 ≤ mc) (hms : 24 ≤ ms) (hr : REL u d) (hq : ∀ h u d, REL u d → LB h x o s L xs u d → ex_W G 10 (mc - 4) (ms - 24) M_L_law 1006 [(0, .ref s), (1, .ref x), (2, .ref (x + 892)), (3, .ref o), (4, .int (nI i))] [] h Q) : ex_W G 10 mc ms M_L_law 448 [(0, .ref s), (1, .ref x), (2, .ref (x + 892)), (3, .ref o), (4, .int (nI i))] [] h Q := by
  by_cases c0 : vp_in (xs (i + 1)) 4
  · obtain ⟨S, hS, eS⟩ := vp_in_of c0 (by decide)
    rcases (by omega : S = 0 ∨ S = 1 ∨ S = 2 ∨ S = 3) with rfl | rfl | rfl | rfl
    · by_cases c1 : vp_in (xs (i + 2)) 3
      · obtain ⟨j, hj, ej⟩ := vp_in_of c1 (by decide)
        have hb0 := up_bit (u := u 0) (j := j) (by omega)
        have hr0 := hr 0 (by decide) j hj
        by_cases e3 : xs (i + 3) = 0
        · by_cases hb : (u 0 >>> (nI j &&& 31)) &&& nI 1 = 0
          · have hd : ¬ d (0 + j) = 0 := fun e => by
              have := hr0.mpr e
              rw [hb0.mp hb] at this
              cases this
            refine w_up_0_0_0 hst hL hi w hmc hms e3 (by rw [eS, ej]; exact l_up0 hst w (e_up_0_0_0 hst w.1 hj hb)) (fun h' w' => ?_) (fun h'' w'' => hq h'' _ _ (RELoff (U := (u, h)) (D := (d, h)) hr (s := 0) (by decide) hj) w'')
            rw [eS, ej]; exact UMP_of w' (if_neg hd) rfl (by have m := e_mup_0 (p2 := nI 0) hst w'.2.1 hj; rw [if_pos (show (nI 0 : Int32) = 0 by decide)] at m; exact m)
          · have hd : d (0 + j) = 0 := hr0.mp (eq_true_of_ne_false (fun hx => hb (hb0.mpr hx)))
            refine w_up_0_0_1 hst hL hi w hmc hms e3 (by rw [eS, ej]; exact l_up1 hst w (e_up_0_0_1 hst w.1 hj hb)) (fun h' w' => ?_) (fun h'' w'' => hq h'' _ _ (RELoff (U := (u, h)) (D := (d, h)) hr (s := 0) (by decide) hj) w'')
            rw [eS, ej]; exact UMP_of w' (if_pos hd) rfl (by have m := e_mup_0 (p2 := nI 0) hst w'.2.1 hj; rw [if_pos (show (nI 0 : Int32) = 0 by decide)] at m; exact m)
        · by_cases hb : (u 0 >>> (nI j &&& 31)) &&& nI 1 = 0
          · have hd : ¬ d (0 + j) = 0 := fun e => by
              have := hr0.mpr e
              rw [hb0.mp hb] at this
              cases this
            refine w_up_1_0_0 hst hL hi w hmc hms e3 (by rw [eS, ej]; exact l_up0 hst w (e_up_0_1_0 hst w.1 hj hb)) (fun h' w' => ?_) (fun h'' w'' => hq h'' _ _ (RELon (U := (u, h)) (D := (d, h)) hr (s := 0) (by decide) hj) w'')
            rw [eS, ej]; exact UMP_of w' (if_neg hd) rfl (by have m := e_mup_0 (p2 := nI 1) hst w'.2.1 hj; rw [if_neg (show ¬ (nI 1 : Int32) = 0 by decide)] at m; exact m)
          · have hd : d (0 + j) = 0 := hr0.mp (eq_true_of_ne_false (fun hx => hb (hb0.mpr hx)))
            refine w_up_1_0_1 hst hL hi w hmc hms e3 (by rw [eS, ej]; exact l_up1 hst w (e_up_0_1_1 hst w.1 hj hb)) (fun h' w' => ?_) (fun h'' w'' => hq h'' _ _ (RELon (U := (u, h)) (D := (d, h)) hr (s := 0) (by decide) hj) w'')
            rw [eS, ej]; exact UMP_of w' (if_pos hd) rfl (by have m := e_mup_0 (p2 := nI 1) hst w'.2.1 hj; rw [if_neg (show ¬ (nI 1 : Int32) = 0 by decide)] at m; exact m)
      · by_cases e3 : xs (i + 3) = 0
        · refine w_up_0_1_0 hst hL hi w hmc hms e3 (by rw [eS]; exact l_upX hst w (e_up_0_b hst w.1 c1)) (fun h' w' => ?_) (fun h'' w'' => hq h'' _ _ hr w'')
          rw [eS]; exact UMP_of w' rfl rfl (e_mup_0_b hst w'.2.1 c1)
        · refine w_up_1_1_0 hst hL hi w hmc hms e3 (by rw [eS]; exact l_upX hst w (e_up_0_b hst w.1 c1)) (fun h' w' => ?_) (fun h'' w'' => hq h'' _ _ hr w'')
          rw [eS]; exact UMP_of w' rfl rfl (e_mup_0_b hst w'.2.1 c1)
    · by_cases c1 : vp_in (xs (i + 2)) 9
      · obtain ⟨j, hj, ej⟩ := vp_in_of c1 (by decide)
        have hb0 := up_bit (u := u 1) (j := j) (by omega)
        have hr0 := hr 1 (by decide) j hj
        by_cases e3 : xs (i + 3) = 0
        · by_cases hb : (u 1 >>> (nI j &&& 31)) &&& nI 1 = 0
          · have hd : ¬ d (3 + j) = 0 := fun e => by
              have := hr0.mpr e
              rw [hb0.mp hb] at this
              cases this
            refine w_up_0_0_0 hst hL hi w hmc hms e3 (by rw [eS, ej]; exact l_up0 hst w (e_up_1_0_0 hst w.1 hj hb)) (fun h' w' => ?_) (fun h'' w'' => hq h'' _ _ (RELoff (U := (u, h)) (D := (d, h)) hr (s := 1) (by decide) hj) w'')
            rw [eS, ej]; exact UMP_of w' (if_neg hd) rfl (by have m := e_mup_1 (p2 := nI 0) hst w'.2.1 hj; rw [if_pos (show (nI 0 : Int32) = 0 by decide)] at m; exact m)
          · have hd : d (3 + j) = 0 := hr0.mp (eq_true_of_ne_false (fun hx => hb (hb0.mpr hx)))
            refine w_up_0_0_1 hst hL hi w hmc hms e3 (by rw [eS, ej]; exact l_up1 hst w (e_up_1_0_1 hst w.1 hj hb)) (fun h' w' => ?_) (fun h'' w'' => hq h'' _ _ (RELoff (U := (u, h)) (D := (d, h)) hr (s := 1) (by decide) hj) w'')
            rw [eS, ej]; exact UMP_of w' (if_pos hd) rfl (by have m := e_mup_1 (p2 := nI 0) hst w'.2.1 hj; rw [if_pos (show (nI 0 : Int32) = 0 by decide)] at m; exact m)
        · by_cases hb : (u 1 >>> (nI j &&& 31)) &&& nI 1 = 0
          · have hd : ¬ d (3 + j) = 0 := fun e => by
              have := hr0.mpr e
              rw [hb0.mp hb] at this
              cases this
            refine w_up_1_0_0 hst hL hi w hmc hms e3 (by rw [eS, ej]; exact l_up0 hst w (e_up_1_1_0 hst w.1 hj hb)) (fun h' w' => ?_) (fun h'' w'' => hq h'' _ _ (RELon (U := (u, h)) (D := (d, h)) hr (s := 1) (by decide) hj) w'')
            rw [eS, ej]; exact UMP_of w' (if_neg hd) rfl (by have m := e_mup_1 (p2 := nI 1) hst w'.2.1 hj; rw [if_neg (show ¬ (nI 1 : Int32) = 0 by decide)] at m; exact m)
          · have hd : d (3 + j) = 0 := hr0.mp (eq_true_of_ne_false (fun hx => hb (hb0.mpr hx)))
            refine w_up_1_0_1 hst hL hi w hmc hms e3 (by rw [eS, ej]; exact l_up1 hst w (e_up_1_1_1 hst w.1 hj hb)) (fun h' w' => ?_) (fun h'' w'' => hq h'' _ _ (RELon (U := (u, h)) (D := (d, h)) hr (s := 1) (by decide) hj) w'')
            rw [eS, ej]; exact UMP_of w' (if_pos hd) rfl (by have m := e_mup_1 (p2 := nI 1) hst w'.2.1 hj; rw [if_neg (show ¬ (nI 1 : Int32) = 0 by decide)] at m; exact m)
      · by_cases e3 : xs (i + 3) = 0
        · refine w_up_0_1_0 hst hL hi w hmc hms e3 (by rw [eS]; exact l_upX hst w (e_up_1_b hst w.1 c1)) (fun h' w' => ?_) (fun h'' w'' => hq h'' _ _ hr w'')
          rw [eS]; exact UMP_of w' rfl rfl (e_mup_1_b hst w'.2.1 c1)
        · refine w_up_1_1_0 hst hL hi w hmc hms e3 (by rw [eS]; exact l_upX hst w (e_up_1_b hst w.1 c1)) (fun h' w' => ?_) (fun h'' w'' => hq h'' _ _ hr w'')
          rw [eS]; exact UMP_of w' rfl rfl (e_mup_1_b hst w'.2.1 c1)
    · by_cases c1 : vp_in (xs (i + 2)) 12
      · obtain ⟨j, hj, ej⟩ := vp_in_of c1 (by decide)
        have hb0 := up_bit (u := u 2) (j := j) (by omega)
        have hr0 := hr 2 (by decide) j hj
        by_cases e3 : xs (i + 3) = 0
        · by_cases hb : (u 2 >>> (nI j &&& 31)) &&& nI 1 = 0
          · have hd : ¬ d (12 + j) = 0 := fun e => by
              have := hr0.mpr e
              rw [hb0.mp hb] at this
              cases this
            refine w_up_0_0_0 hst hL hi w hmc hms e3 (by rw [eS, ej]; exact l_up0 hst w (e_up_2_0_0 hst w.1 hj hb)) (fun h' w' => ?_) (fun h'' w'' => hq h'' _ _ (RELoff (U := (u, h)) (D := (d, h)) hr (s := 2) (by decide) hj) w'')
            rw [eS, ej]; exact UMP_of w' (if_neg hd) rfl (by have m := e_mup_2 (p2 := nI 0) hst w'.2.1 hj; rw [if_pos (show (nI 0 : Int32) = 0 by decide)] at m; exact m)
          · have hd : d (12 + j) = 0 := hr0.mp (eq_true_of_ne_false (fun hx => hb (hb0.mpr hx)))
            refine w_up_0_0_1 hst hL hi w hmc hms e3 (by rw [eS, ej]; exact l_up1 hst w (e_up_2_0_1 hst w.1 hj hb)) (fun h' w' => ?_) (fun h'' w'' => hq h'' _ _ (RELoff (U := (u, h)) (D := (d, h)) hr (s := 2) (by decide) hj) w'')
            rw [eS, ej]; exact UMP_of w' (if_pos hd) rfl (by have m := e_mup_2 (p2 := nI 0) hst w'.2.1 hj; rw [if_pos (show (nI 0 : Int32) = 0 by decide)] at m; exact m)
        · by_cases hb : (u 2 >>> (nI j &&& 31)) &&& nI 1 = 0
          · have hd : ¬ d (12 + j) = 0 := fun e => by
              have := hr0.mpr e
              rw [hb0.mp hb] at this
              cases this
            refine w_up_1_0_0 hst hL hi w hmc hms e3 (by rw [eS, ej]; exact l_up0 hst w (e_up_2_1_0 hst w.1 hj hb)) (fun h' w' => ?_) (fun h'' w'' => hq h'' _ _ (RELon (U := (u, h)) (D := (d, h)) hr (s := 2) (by decide) hj) w'')
            rw [eS, ej]; exact UMP_of w' (if_neg hd) rfl (by have m := e_mup_2 (p2 := nI 1) hst w'.2.1 hj; rw [if_neg (show ¬ (nI 1 : Int32) = 0 by decide)] at m; exact m)
          · have hd : d (12 + j) = 0 := hr0.mp (eq_true_of_ne_false (fun hx => hb (hb0.mpr hx)))
            refine w_up_1_0_1 hst hL hi w hmc hms e3 (by rw [eS, ej]; exact l_up1 hst w (e_up_2_1_1 hst w.1 hj hb)) (fun h' w' => ?_) (fun h'' w'' => hq h'' _ _ (RELon (U := (u, h)) (D := (d, h)) hr (s := 2) (by decide) hj) w'')
            rw [eS, ej]; exact UMP_of w' (if_pos hd) rfl (by have m := e_mup_2 (p2 := nI 1) hst w'.2.1 hj; rw [if_neg (show ¬ (nI 1 : Int32) = 0 by decide)] at m; exact m)
      · by_cases e3 : xs (i + 3) = 0
        · refine w_up_0_1_0 hst hL hi w hmc hms e3 (by rw [eS]; exact l_upX hst w (e_up_2_b hst w.1 c1)) (fun h' w' => ?_) (fun h'' w'' => hq h'' _ _ hr w'')
          rw [eS]; exact UMP_of w' rfl rfl (e_mup_2_b hst w'.2.1 c1)
        · refine w_up_1_1_0 hst hL hi w hmc hms e3 (by rw [eS]; exact l_upX hst w (e_up_2_b hst w.1 c1)) (fun h' w' => ?_) (fun h'' w'' => hq h'' _ _ hr w'')
          rw [eS]; exact UMP_of w' rfl rfl (e_mup_2_b hst w'.2.1 c1)
    · by_cases c1 : vp_in (xs (i + 2)) 3
      · obtain ⟨j, hj, ej⟩ := vp_in_of c1 (by decide)
        have hb0 := up_bit (u := u 3) (j := j) (by omega)
        have hr0 := hr 3 (by decide) j hj
        by_cases e3 : xs (i + 3) = 0
        · by_cases hb : (u 3 >>> (nI j &&& 31)) &&& nI 1 = 0
          · have hd : ¬ d (24 + j) = 0 := fun e => by
              have := hr0.mpr e
              rw [hb0.mp hb] at this
              cases this
            refine w_up_0_0_0 hst hL hi w hmc hms e3 (by rw [eS, ej]; exact l_up0 hst w (e_up_3_0_0 hst w.1 hj hb)) (fun h' w' => ?_) (fun h'' w'' => hq h'' _ _ (RELoff (U := (u, h)) (D := (d, h)) hr (s := 3) (by decide) hj) w'')
            rw [eS, ej]; exact UMP_of w' (if_neg hd) rfl (by have m := e_mup_3 (p2 := nI 0) hst w'.2.1 hj; rw [if_pos (show (nI 0 : Int32) = 0 by decide)] at m; exact m)
          · have hd : d (24 + j) = 0 := hr0.mp (eq_true_of_ne_false (fun hx => hb (hb0.mpr hx)))
            refine w_up_0_0_1 hst hL hi w hmc hms e3 (by rw [eS, ej]; exact l_up1 hst w (e_up_3_0_1 hst w.1 hj hb)) (fun h' w' => ?_) (fun h'' w'' => hq h'' _ _ (RELoff (U := (u, h)) (D := (d, h)) hr (s := 3) (by decide) hj) w'')
            rw [eS, ej]; exact UMP_of w' (if_pos hd) rfl (by have m := e_mup_3 (p2 := nI 0) hst w'.2.1 hj; rw [if_pos (show (nI 0 : Int32) = 0 by decide)] at m; exact m)
        · by_cases hb : (u 3 >>> (nI j &&& 31)) &&& nI 1 = 0
          · have hd : ¬ d (24 + j) = 0 := fun e => by
              have := hr0.mpr e
              rw [hb0.mp hb] at this
              cases this
            refine w_up_1_0_0 hst hL hi w hmc hms e3 (by rw [eS, ej]; exact l_up0 hst w (e_up_3_1_0 hst w.1 hj hb)) (fun h' w' => ?_) (fun h'' w'' => hq h'' _ _ (RELon (U := (u, h)) (D := (d, h)) hr (s := 3) (by decide) hj) w'')
            rw [eS, ej]; exact UMP_of w' (if_neg hd) rfl (by have m := e_mup_3 (p2 := nI 1) hst w'.2.1 hj; rw [if_neg (show ¬ (nI 1 : Int32) = 0 by decide)] at m; exact m)
          · have hd : d (24 + j) = 0 := hr0.mp (eq_true_of_ne_false (fun hx => hb (hb0.mpr hx)))
            refine w_up_1_0_1 hst hL hi w hmc hms e3 (by rw [eS, ej]; exact l_up1 hst w (e_up_3_1_1 hst w.1 hj hb)) (fun h' w' => ?_) (fun h'' w'' => hq h'' _ _ (RELon (U := (u, h)) (D := (d, h)) hr (s := 3) (by decide) hj) w'')
            rw [eS, ej]; exact UMP_of w' (if_pos hd) rfl (by have m := e_mup_3 (p2 := nI 1) hst w'.2.1 hj; rw [if_neg (show ¬ (nI 1 : Int32) = 0 by decide)] at m; exact m)
      · by_cases e3 : xs (i + 3) = 0
        · refine w_up_0_1_0 hst hL hi w hmc hms e3 (by rw [eS]; exact l_upX hst w (e_up_3_b hst w.1 c1)) (fun h' w' => ?_) (fun h'' w'' => hq h'' _ _ hr w'')
          rw [eS]; exact UMP_of w' rfl rfl (e_mup_3_b hst w'.2.1 c1)
        · refine w_up_1_1_0 hst hL hi w hmc hms e3 (by rw [eS]; exact l_upX hst w (e_up_3_b hst w.1 c1)) (fun h' w' => ?_) (fun h'' w'' => hq h'' _ _ hr w'')
          rw [eS]; exact UMP_of w' rfl rfl (e_mup_3_b hst w'.2.1 c1)
  · by_cases e3 : xs (i + 3) = 0
    · refine w_up_0_1_0 hst hL hi w hmc hms e3 (l_upX hst w (e_up_b hst w.1 c0)) (fun h' w' => ?_) (fun h'' w'' => hq h'' _ _ hr w'')
      exact UMP_of w' rfl rfl (e_mup_b hst w'.2.1 c0)
    · refine w_up_1_1_0 hst hL hi w hmc hms e3 (l_upX hst w (e_up_b hst w.1 c0)) (fun h' w' => ?_) (fun h'' w'' => hq h'' _ _ hr w'')
      exact UMP_of w' rfl rfl (e_mup_b hst w'.2.1 c0)
theorem w_clear {G : GE} (hst : (ge_l G).stackTraces = false) {x o s L i mc ms : Nat} {h : GT} {Q : RT → GT → Prop} {xs u d : Nat → Int32} (hL : L ≤ 2048) (hi : i + 4 ≤ L) (w : LB h x o s L xs u d) (hq : ∀ h, LB h x o s L xs Uup (fun _ => 0) → ex_W G 10 mc ms M_L_law 1006 [(0, .ref s), (1, .ref x), (2, .ref (x + 892)), (3, .ref o), (4, .int (nI i))] [] h Q) : ex_W G 10 mc ms M_L_law 995 [(0, .ref s), (1, .ref x), (2, .ref (x + 892)), (3, .ref o), (4, .int (nI i))] [] h Q := by
  refine ex_aload_n ok_L_law (mL10 9 rfl) rfl ?_
  refine ex_callVr (As := []) ok_L_law (mL10 10 rfl) rfl (s_X11_clear hst w.1) rfl (fk w.1.1 0 rfl) rfl rfl (by decide) (by decide) (Nat.le_of_ble_eq_true rfl) ⟨Nat.zero_le _, Nat.zero_le _⟩ ?_
  have w1 := LB_c w (INV_WR w.1)
  refine ex_aload_n ok_L_law (mL10 11 rfl) rfl ?_
  refine sm_V (As := []) ok_L_law (mL10 12 rfl) rfl (s_X12_clear hst (fun _ k => k) w1.2.1) rfl (fk (x := x + 892) (a := 0) (MI_s w1.2.1) 0 rfl) rfl rfl (by decide) (by decide) (Nat.le_of_ble_eq_true rfl) ⟨Nat.zero_le _, Nat.zero_le _⟩ SM_no (fun z2 h2 hm => ?_)
  obtain ⟨v2, e2, p2, I2⟩ := hm
  cases e2
  obtain rfl : z2 = none := p2
  have w2 := LB_m w1 I2
  refine ex_goto (tgt := 1006) ok_L_law (mL10 13 rfl) rfl ?_
  exact ex_ls (ls' := [(0, .ref s), (1, .ref x), (2, .ref (x + 892)), (3, .ref o), (4, .int (nI i))]) ⟨rfl, rfl, rfl, rfl, rfl, trivial⟩ (hq _ w2)
