/-! ===== a message taken out of the air ===== -/
section EST
variable {G : GE} {d mc ms : Nat} {M : MT} {pc : Nat} {ls : List (Nat × Value)} {st stk : List Value} {g : GT} {Q : RT → GT → Prop} {x : Nat} {U : UT}
theorem sf_ringput1 {i : Int32} {q : Nat} (I : INV x U g) (hz : gx_I g 4 (x + 1) ≠ 0) (h : MSR x q) (hM : mt_ok M = true) (hf : mt_in M pc (.aastore) 1) (hin : vp_in i 400) (k : ∀ g, INV x U g → gx_I g 4 (x + 1) ≠ 0 → ex_W G d mc ms M (pc + 1) ls st g Q) : ex_W G d mc ms M pc ls (.ref q :: .int i :: .ref (x + 2) :: st) g Q :=
  ex_aast hM hf (n := 0) (by decide) (fk I.1 2 rfl) (fk (INV_6 I h) 0 rfl) (by rw [fn I.1 2 rfl]; exact hin) (k _ (INV_O I h) hz)
theorem sf_puttk1 {idx q : Nat} (I : INV x U g) (hz : gx_I g 4 (x + 1) ≠ 0) (h : MSR x q) (hM : mt_ok M = true) (hf : mt_in M pc (.putfield idx) 3) (hp : (mt_f M).lookup idx = some (0, 1)) (k : ∀ g, INV x U g → gx_I g 4 (x + 1) ≠ 0 → ex_W G d mc ms M (pc + 3) ls st g Q) : ex_W G d mc ms M pc ls (.ref q :: .ref (x + 1) :: st) g Q :=
  ex_putRx hM hf hp (fk I.1 1 rfl) rfl (fk (INV_6 I h) 0 rfl) (by decide) (k _ (INV_tk I h) hz)
theorem sf_putHd1 {idx : Nat} {v : Int32} (I : INV x U g) (hz : gx_I g 4 (x + 1) ≠ 0) (hM : mt_ok M = true) (hf : mt_in M pc (.putfield idx) 3) (hp : (mt_f M).lookup idx = some (0, 3)) (hv : vp_in v 400) (k : ∀ g, INV x U g → gx_I g 4 (x + 1) ≠ 0 → ex_W G d mc ms M (pc + 3) ls st g Q) : ex_W G d mc ms M pc ls (.int v :: .ref (x + 1) :: st) g Q :=
  ex_putI hM hf hp (fk I.1 1 rfl) rfl (k _ (INV_hd I hv) (by rw [gxI_I, if_neg (fun k => absurd k.1 (by decide))]; exact hz))
end EST
theorem sz_dec {v : Int32} (h1 : vp_in v 401) (h2 : v ≠ 0) : vp_in (v - Int32.ofInt 1) 401 := by
  obtain ⟨j, hj, rfl⟩ := vp_in_of h1 (by decide)
  match j, hj, h2 with
  | 0, _, h2 => exact absurd (by decide) h2
  | (j + 1), hj, _ =>
    have e : nI (j + 1) - Int32.ofInt 1 = nI j := nI_pred j
    rw [e]
    exact vp_in_nI (by omega) (by decide)
theorem s_X0_take {G : GE} (hst : (ge_l G).stackTraces = false) {x : Nat} {U : UT} {g : GT} (I : INV x U g) {p0 : Int32} (hk : vp_in p0 400) (hz : gx_I g 4 (x + 1) ≠ 0) : ex_M G 2 0 0 my_X0_take [.ref (x + 1), .int p0] g (SV x U (pM x)) := by
  refine ex_M_of ok_X0_take cw_X0_take rfl hst (Nat.le_of_ble_eq_true rfl) ?_
  refine ex_aload_n ok_X0_take (mi 0 rfl) rfl ?_
  refine ex_iload_n ok_X0_take (mi 1 rfl) rfl ?_
  refine sf_Vp (As := [_]) ok_X0_take (mi 2 rfl) rfl (s_X0_at hst I (vp_mono hk (by decide))) rfl (fk I.1 1 rfl) rfl rfl (by decide) (by decide) (Nat.le_of_ble_eq_true rfl) (by decide) (fun z1 p1 => ?_)
  obtain ⟨m1, rfl, hm1⟩ := p1
  refine ex_astore_n ok_X0_take (mi 3 rfl) ?_
  refine ex_iload_n ok_X0_take (mi 4 rfl) rfl ?_
  refine ex_istore_n ok_X0_take (mi 5 rfl) ?_
  have lp : ∀ j : Nat, j < 401 → ∀ g : GT, INV x U g → gx_I g 4 (x + 1) ≠ 0 → ex_W G 2 0 0 M_X0_take 8 [(0, .ref (x + 1)), (2, .ref m1), (3, .int (nI j))] [] g (SV x U (pM x)) := by
    intro j
    induction j with
    | zero =>
      intro hj g I hz
      refine ex_iload_n ok_X0_take (mi 6 rfl) rfl ?_
      refine ex_if_le (tgt := 40) ok_X0_take (mi 7 rfl) rfl (fun _ => ?_) (fun hn => absurd (by decide) hn)
      refine ex_aload_n ok_X0_take (mi 24 rfl) rfl ?_
      refine ex_getRx ok_X0_take (mi 25 rfl) rfl rfl (fk I.1 1 rfl) (fr I.1 0 rfl) (fk I.1 2 rfl) (by decide) ?_
      refine ex_aload_n ok_X0_take (mi 26 rfl) rfl ?_
      refine sf_getHd I ok_X0_take (mi 27 rfl) rfl (fk I.1 1 rfl) (fun v hv => ?_)
      refine ex_aload_n ok_X0_take (mi 28 rfl) rfl ?_
      refine sf_taken I ok_X0_take (mi 29 rfl) rfl (fun m2 hm2 => ?_)
      refine sf_ringput1 I hz hm2 ok_X0_take (mi 30 rfl) hv (fun g I hz => ?_)
      refine ex_aload_n ok_X0_take (mi 31 rfl) rfl ?_
      refine ex_aload_n ok_X0_take (mi 32 rfl) rfl ?_
      refine sf_puttk1 I hz hm1 ok_X0_take (mi 33 rfl) rfl (fun g I hz => ?_)
      refine ex_aload_n ok_X0_take (mi 34 rfl) rfl ?_
      refine ex_aload_n ok_X0_take (mi 35 rfl) rfl ?_
      refine sf_getHd I ok_X0_take (mi 36 rfl) rfl (fk I.1 1 rfl) (fun w hw => ?_)
      refine ex_iconst ok_X0_take (mi 37 rfl) ?_
      refine ex_iadd ok_X0_take (mi 38 rfl) ?_
      refine ex_sipush ok_X0_take (mi 39 rfl) ?_
      refine ex_irem ok_X0_take (mi 40 rfl) (by decide) ?_
      refine sf_putHd1 I hz ok_X0_take (mi 41 rfl) rfl (mod400 hw (pk_in 1 402 (by decide))) (fun g I hz => ?_)
      refine ex_aload_n ok_X0_take (mi 42 rfl) rfl ?_
      refine ex_dup ok_X0_take (mi 43 rfl) rfl ?_
      refine sf_getSz I ok_X0_take (mi 44 rfl) rfl (fk I.1 1 rfl) (fun hs => ?_)
      refine ex_iconst ok_X0_take (mi 45 rfl) ?_
      refine ex_isub ok_X0_take (mi 46 rfl) ?_
      refine sf_putSz I ok_X0_take (mi 47 rfl) rfl (fk I.1 1 rfl) (sz_dec hs hz) (fun g I => ?_)
      refine ex_aload_n ok_X0_take (mi 48 rfl) rfl ?_
      refine ex_aret ok_X0_take (mi 49 rfl) rfl ?_
      exact ⟨_, rfl, ⟨_, rfl, hm1⟩, I⟩
    | succ j ih =>
      intro hj g I hz
      refine ex_iload_n ok_X0_take (mi 6 rfl) rfl ?_
      refine ex_if_le (tgt := 40) ok_X0_take (mi 7 rfl) rfl (fun hn => absurd hn (nI_nle (Nat.succ_pos j) (by omega))) (fun _ => ?_)
      refine ex_aload_n ok_X0_take (mi 8 rfl) rfl ?_
      refine ex_getRx ok_X0_take (mi 9 rfl) rfl rfl (fk I.1 1 rfl) (fr I.1 0 rfl) (fk I.1 2 rfl) (by decide) ?_
      refine ex_aload_n ok_X0_take (mi 10 rfl) rfl ?_
      refine sf_getHd I ok_X0_take (mi 11 rfl) rfl (fk I.1 1 rfl) (fun v hv => ?_)
      refine ex_iload_n ok_X0_take (mi 12 rfl) rfl ?_
      refine ex_iadd ok_X0_take (mi 13 rfl) ?_
      refine ex_sipush ok_X0_take (mi 14 rfl) ?_
      refine ex_irem ok_X0_take (mi 15 rfl) (by decide) ?_
      refine ex_aload_n ok_X0_take (mi 16 rfl) rfl ?_
      refine ex_iload_n ok_X0_take (mi 17 rfl) rfl ?_
      refine ex_iconst ok_X0_take (mi 18 rfl) ?_
      refine ex_isub ok_X0_take (mi 19 rfl) ?_
      refine ex_top (w := nI j) (nI_pred j) ?_
      refine sf_Vp (As := [_]) ok_X0_take (mi 20 rfl) rfl (s_X0_at hst I (vp_in_nI (by omega) (by decide))) rfl (fk I.1 1 rfl) rfl rfl (by decide) (by decide) (Nat.le_of_ble_eq_true rfl) (by decide) (fun z2 p2 => ?_)
      obtain ⟨m2, rfl, hm2⟩ := p2
      refine sf_ringput1 I hz hm2 ok_X0_take (mi 21 rfl) (mod400 hv (vp_in_nI (by omega) (by decide))) (fun g I hz => ?_)
      refine ex_iincx (w := nI j) ok_X0_take (mi 22 rfl) rfl (nI_dec j) ?_
      refine ex_goto (tgt := 8) ok_X0_take (mi 23 rfl) rfl ?_
      exact ex_ls (ls' := [(0, .ref (x + 1)), (2, .ref m1), (3, .int (nI j))]) ⟨rfl, rfl, rfl, trivial⟩ (ih (by omega) g I hz)
  obtain ⟨j, hj, rfl⟩ := vp_in_of hk (by decide)
  exact ex_ls (ls' := [(0, .ref (x + 1)), (2, .ref m1), (3, .int (nI j))]) ⟨rfl, rfl, rfl, trivial⟩ (lp j (by omega) g I hz)
