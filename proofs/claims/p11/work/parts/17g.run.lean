/-! ===== run ===== -/
theorem s_X11_run {G : GE} (hst : (ge_l G).stackTraces = false) {x : Nat} {U : UT} {g : GT} (I : INV x U g) {p0 : Int32} : ex_M G 8 4 24 my_X11_run [.ref x, .int p0] g (SX x U [101] pI) := by
  refine ex_M_of ok_X11_run cw_X11_run rfl hst (Nat.le_of_ble_eq_true rfl) ?_
  refine ex_iload_n ok_X11_run (mi 0 rfl) rfl ?_
  refine ex_if_lt (tgt := 11) ok_X11_run (mi 1 rfl) rfl (fun h1 => ?_) (fun h1 => ?_)
  · refine ex_throw (e := 101) ok_X11_run (mi 5 rfl) (mi 6 rfl) (mi 7 rfl) (mi 8 rfl) (mi 9 rfl) (by decide) tx_85_89 (List.mem_of_getElem? (i := 5) rfl) rfl (by decide) (by decide) (Nat.le_of_ble_eq_true rfl) (fun n hn => ⟨Or.inr ⟨101, by decide, rfl⟩, INV_Z I⟩)
  · refine ex_iload_n ok_X11_run (mi 2 rfl) rfl ?_
    refine ex_sipush ok_X11_run (mi 3 rfl) ?_
    refine ex_icmp_le (tgt := 21) ok_X11_run (mi 4 rfl) rfl (fun h8 => ?_) (fun h8 => ?_)
    · obtain ⟨N, hN, rfl⟩ := vp_in_of (vin_le (n := 2000) (by rw [← Int32.not_lt]; exact h1) h8 (by decide)) (by decide)
      refine ex_iconst ok_X11_run (mi 10 rfl) ?_
      refine ex_istore_n ok_X11_run (mi 11 rfl) ?_
      have lp : ∀ r t : Nat, t + r = N → ∀ g : GT, INV x U g → ex_W G 8 4 24 M_X11_run 23 [(0, .ref x), (1, .int (nI N)), (2, .int (nI t))] [] g (SX x U [101] pI) := by
        intro r
        induction r with
        | zero =>
          intro t ht g I
          obtain rfl : t = N := by omega
          refine ex_iload_n ok_X11_run (mi 12 rfl) rfl ?_
          refine ex_iload_n ok_X11_run (mi 13 rfl) rfl ?_
          refine ex_icmp_ge (tgt := 56) ok_X11_run (mi 14 rfl) rfl (fun _ => ?_) (fun hn => absurd (nI_le (Nat.le_refl _) (by omega)) hn)
          refine ex_iload_n ok_X11_run (mi 27 rfl) rfl ?_
          refine ex_iret ok_X11_run (mi 28 rfl) rfl ?_
          exact ⟨Or.inl ⟨_, rfl, _, rfl⟩, I⟩
        | succ r ih =>
          intro t ht g I
          refine ex_iload_n ok_X11_run (mi 12 rfl) rfl ?_
          refine ex_iload_n ok_X11_run (mi 13 rfl) rfl ?_
          refine ex_icmp_ge (tgt := 56) ok_X11_run (mi 14 rfl) rfl (fun hn => absurd hn (nI_ge (by omega) (by omega))) (fun _ => ?_)
          refine ex_aload_n ok_X11_run (mi 15 rfl) rfl ?_
          refine ex_getRx ok_X11_run (mi 16 rfl) rfl rfl (fk I.1 0 rfl) (I.1.2 (0, 1100, 1) (by decide +kernel)) (fk I.1 1 rfl) (by decide) ?_
          refine sf_getSz I ok_X11_run (mi 17 rfl) rfl (fk I.1 1 rfl) (fun hz => ?_)
          refine ex_if_le (tgt := 56) ok_X11_run (mi 18 rfl) rfl (fun h35 => ?_) (fun h35 => ?_)
          · refine ex_iload_n ok_X11_run (mi 27 rfl) rfl ?_
            refine ex_iret ok_X11_run (mi 28 rfl) rfl ?_
            exact ⟨Or.inl ⟨_, rfl, _, rfl⟩, I⟩
          · have hz0 : gx_I g 4 (x + 1) ≠ 0 := fun e => h35 (by rw [e]; decide)
            refine ex_aload_n ok_X11_run (mi 19 rfl) rfl ?_
            refine ex_aload_n ok_X11_run (mi 20 rfl) rfl ?_
            refine ex_getRx ok_X11_run (mi 21 rfl) rfl rfl (fk I.1 0 rfl) (I.1.2 (0, 1100, 1) (by decide +kernel)) (fk I.1 1 rfl) (by decide) ?_
            refine ex_iconst ok_X11_run (mi 22 rfl) ?_
            refine sf_V (As := [_]) ok_X11_run (mi 23 rfl) rfl (s_X0_take hst I (pk_in 0 400 (by decide)) hz0) rfl (fk I.1 1 rfl) rfl rfl (by decide) (by decide) (Nat.le_of_ble_eq_true rfl) (by decide) (fun z1 g1 p1 I1 => ?_)
            obtain ⟨m1, rfl, hm1⟩ := p1
            refine sf_V (As := [_]) ok_X11_run (mi 24 rfl) rfl (s_X11_bring hst I1 hm1) rfl (fk I1.1 0 rfl) rfl rfl (by decide) (by decide) (Nat.le_of_ble_eq_true rfl) (by decide) (fun z2 g2 p2 I2 => ?_)
            obtain rfl : z2 = none := p2
            refine ex_iincx (w := nI (t + 1)) ok_X11_run (mi 25 rfl) rfl (nI_1 t) ?_
            refine ex_goto (tgt := 23) ok_X11_run (mi 26 rfl) rfl ?_
            exact ex_ls (ls' := [(0, .ref x), (1, .int (nI N)), (2, .int (nI (t + 1)))]) ⟨rfl, rfl, rfl, trivial⟩ (ih (t + 1) (by omega) g2 I2)
      exact ex_ls (ls' := [(0, .ref x), (1, .int (nI N)), (2, .int (nI 0))]) ⟨rfl, rfl, rfl, trivial⟩ (lp N 0 (by omega) g I)
    · refine ex_throw (e := 101) ok_X11_run (mi 5 rfl) (mi 6 rfl) (mi 7 rfl) (mi 8 rfl) (mi 9 rfl) (by decide) tx_85_89 (List.mem_of_getElem? (i := 5) rfl) rfl (by decide) (by decide) (Nat.le_of_ble_eq_true rfl) (fun n hn => ⟨Or.inr ⟨101, by decide, rfl⟩, INV_Z I⟩)
