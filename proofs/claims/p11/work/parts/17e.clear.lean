/-! ===== the reset of all, from any state ===== -/
theorem m_X11_resetAllb {G : GE} (hst : (ge_l G).stackTraces = false) {x : Nat} {h : GT} (hs : sh T11b h x) (ho : tO O11 h x) (hi : tI I11 h x) : ex_M G 7 0 0 my_X11_resetAll [.ref x] h (rv none (ap x WR h)) := by
  refine ex_M_of ok_X11_resetAll cw_X11_resetAll rfl hst (Nat.le_of_ble_eq_true rfl) ?_
  refine ex_aload_n ok_X11_resetAll (mi 0 rfl) rfl ?_
  refine ex_getRx ok_X11_resetAll (mi 1 rfl) rfl rfl (fk hs 0 rfl) (fr hs 2 rfl) (fk hs 1 rfl) (by decide) ?_
  refine ex_callVr (As := []) (v := none) (g1 := (ap x (W_X0_reset 1) h)) ok_X11_resetAll (mi 2 rfl) rfl (mA_X0_reset (ws := []) hst (fk hs 1 rfl)) rfl (fk hs 1 rfl) rfl rfl (by decide) (by decide) (Nat.le_of_ble_eq_true rfl) (by decide) ?_
  refine ex_aload_n ok_X11_resetAll (mi 3 rfl) rfl ?_
  refine ex_getRx ok_X11_resetAll (mi 4 rfl) rfl rfl (kq apq (fk hs 0 rfl)) (rq apq (fr hs 3 rfl)) (kq apq (fk hs 3 rfl)) (by decide) ?_
  refine ex_iconst ok_X11_resetAll (mi 5 rfl) ?_
  refine ex_callSr (As := [_, _]) (v := none) (g1 := (ap x ([(2, 807, 0, 300, (nI 0))] ++ (W_X0_reset 1)) h)) ok_X11_resetAll (mi 6 rfl) rfl (mA_fill (ws := (W_X0_reset 1)) (v := (nI 0)) hst (fk hs 3 rfl) (fn hs 3 rfl) (by decide)) rfl rfl rfl (by decide) (Nat.le_of_ble_eq_true rfl) (by decide) ?_
  refine ex_aload_n ok_X11_resetAll (mi 7 rfl) rfl ?_
  refine ex_getRx ok_X11_resetAll (mi 8 rfl) rfl rfl (kq apq (fk hs 0 rfl)) (rq apq (fr hs 7 rfl)) (kq apq (fk hs 4 rfl)) (by decide) ?_
  refine ex_callVr (As := []) (v := none) (g1 := (ap x (W_X9_reset 808 ++ ([(2, 807, 0, 300, (nI 0))] ++ (W_X0_reset 1))) h)) ok_X11_resetAll (mi 9 rfl) rfl (mA_X9_reset (ws := ([(2, 807, 0, 300, (nI 0))] ++ (W_X0_reset 1))) hst (sh_sub 808 hs (by decide +kernel) (by decide +kernel))) rfl (kq apq (fk hs 4 rfl)) rfl rfl (by decide) (by decide) (Nat.le_of_ble_eq_true rfl) (by decide) ?_
  refine ex_aload_n ok_X11_resetAll (mi 10 rfl) rfl ?_
  refine ex_getRx ok_X11_resetAll (mi 11 rfl) rfl rfl (kq apq (fk hs 0 rfl)) (rq apq (fr hs 10 rfl)) (kq apq (fk hs 7 rfl)) (by decide) ?_
  refine ex_callVr (As := []) (v := none) (g1 := (ap x (W_X2_reset 811 ++ (W_X9_reset 808 ++ ([(2, 807, 0, 300, (nI 0))] ++ (W_X0_reset 1)))) h)) ok_X11_resetAll (mi 12 rfl) rfl (mA_X2_reset (ws := (W_X9_reset 808 ++ ([(2, 807, 0, 300, (nI 0))] ++ (W_X0_reset 1)))) hst (sh_sub 811 hs (by decide +kernel) (by decide +kernel))) rfl (kq apq (fk hs 7 rfl)) rfl rfl (by decide) (by decide) (Nat.le_of_ble_eq_true rfl) (by decide) ?_
  refine ex_iconst ok_X11_resetAll (mi 13 rfl) ?_
  refine ex_istore_n ok_X11_resetAll (mi 14 rfl) ?_
  refine ex_iload_n ok_X11_resetAll (mi 15 rfl) rfl ?_
  refine ex_iconst ok_X11_resetAll (mi 16 rfl) ?_
  refine ex_icmp_ge (tgt := 51) ok_X11_resetAll (mi 17 rfl) rfl (fun hn => absurd hn (by decide)) (fun _ => ?_)
  refine ex_aload_n ok_X11_resetAll (mi 18 rfl) rfl ?_
  refine ex_getRx ok_X11_resetAll (mi 19 rfl) rfl rfl (kq apq (fk hs 0 rfl)) (rq apq (fr hs 12 rfl)) (kq apq (fk hs 10 rfl)) (by decide) ?_
  refine ex_iload_n ok_X11_resetAll (mi 20 rfl) rfl ?_
  refine ex_aaldx (n := 1) ok_X11_resetAll (mi 21 rfl) (by decide) (kq apq (fk hs 10 rfl)) (nq apq (fn hs 10 rfl)) (pk_in 0 3 (by decide)) (oq apq (fo ho 0 rfl)) (kq apq (fk hs 11 rfl)) (by decide) ?_
  refine ex_callVr (As := []) (v := none) (g1 := (ap x (W_X5_reset 815 ++ (W_X2_reset 811 ++ (W_X9_reset 808 ++ ([(2, 807, 0, 300, (nI 0))] ++ (W_X0_reset 1))))) h)) ok_X11_resetAll (mi 22 rfl) rfl (mA_X5_reset (ws := (W_X2_reset 811 ++ (W_X9_reset 808 ++ ([(2, 807, 0, 300, (nI 0))] ++ (W_X0_reset 1))))) hst (sh_sub 815 hs (by decide +kernel) (by decide +kernel))) rfl (kq apq (fk hs 11 rfl)) rfl rfl (by decide) (by decide) (Nat.le_of_ble_eq_true rfl) (by decide) ?_
  refine ex_iincx (w := (nI 1)) ok_X11_resetAll (mi 23 rfl) rfl (by decide) ?_
  refine ex_goto (tgt := 31) ok_X11_resetAll (mi 24 rfl) rfl ?_
  refine ex_ls (ls' := [(0, .ref x), (1, .int (nI 1))]) ⟨rfl, rfl, trivial⟩ ?_
  refine ex_iload_n ok_X11_resetAll (mi 15 rfl) rfl ?_
  refine ex_iconst ok_X11_resetAll (mi 16 rfl) ?_
  refine ex_icmp_ge (tgt := 51) ok_X11_resetAll (mi 17 rfl) rfl (fun hn => absurd hn (by decide)) (fun _ => ?_)
  refine ex_aload_n ok_X11_resetAll (mi 18 rfl) rfl ?_
  refine ex_getRx ok_X11_resetAll (mi 19 rfl) rfl rfl (kq apq (fk hs 0 rfl)) (rq apq (fr hs 12 rfl)) (kq apq (fk hs 10 rfl)) (by decide) ?_
  refine ex_iload_n ok_X11_resetAll (mi 20 rfl) rfl ?_
  refine ex_aaldx (n := 1) ok_X11_resetAll (mi 21 rfl) (by decide) (kq apq (fk hs 10 rfl)) (nq apq (fn hs 10 rfl)) (pk_in 1 3 (by decide)) (oq apq (fo ho 1 rfl)) (kq apq (fk hs 22 rfl)) (by decide) ?_
  refine ex_callVr (As := []) (v := none) (g1 := (ap x (W_X5_reset 826 ++ (W_X5_reset 815 ++ (W_X2_reset 811 ++ (W_X9_reset 808 ++ ([(2, 807, 0, 300, (nI 0))] ++ (W_X0_reset 1)))))) h)) ok_X11_resetAll (mi 22 rfl) rfl (mA_X5_reset (ws := (W_X5_reset 815 ++ (W_X2_reset 811 ++ (W_X9_reset 808 ++ ([(2, 807, 0, 300, (nI 0))] ++ (W_X0_reset 1)))))) hst (sh_sub 826 hs (by decide +kernel) (by decide +kernel))) rfl (kq apq (fk hs 22 rfl)) rfl rfl (by decide) (by decide) (Nat.le_of_ble_eq_true rfl) (by decide) ?_
  refine ex_iincx (w := (nI 2)) ok_X11_resetAll (mi 23 rfl) rfl (by decide) ?_
  refine ex_goto (tgt := 31) ok_X11_resetAll (mi 24 rfl) rfl ?_
  refine ex_ls (ls' := [(0, .ref x), (1, .int (nI 2))]) ⟨rfl, rfl, trivial⟩ ?_
  refine ex_iload_n ok_X11_resetAll (mi 15 rfl) rfl ?_
  refine ex_iconst ok_X11_resetAll (mi 16 rfl) ?_
  refine ex_icmp_ge (tgt := 51) ok_X11_resetAll (mi 17 rfl) rfl (fun hn => absurd hn (by decide)) (fun _ => ?_)
  refine ex_aload_n ok_X11_resetAll (mi 18 rfl) rfl ?_
  refine ex_getRx ok_X11_resetAll (mi 19 rfl) rfl rfl (kq apq (fk hs 0 rfl)) (rq apq (fr hs 12 rfl)) (kq apq (fk hs 10 rfl)) (by decide) ?_
  refine ex_iload_n ok_X11_resetAll (mi 20 rfl) rfl ?_
  refine ex_aaldx (n := 1) ok_X11_resetAll (mi 21 rfl) (by decide) (kq apq (fk hs 10 rfl)) (nq apq (fn hs 10 rfl)) (pk_in 2 3 (by decide)) (oq apq (fo ho 2 rfl)) (kq apq (fk hs 33 rfl)) (by decide) ?_
  refine ex_callVr (As := []) (v := none) (g1 := (ap x (W_X5_reset 837 ++ (W_X5_reset 826 ++ (W_X5_reset 815 ++ (W_X2_reset 811 ++ (W_X9_reset 808 ++ ([(2, 807, 0, 300, (nI 0))] ++ (W_X0_reset 1))))))) h)) ok_X11_resetAll (mi 22 rfl) rfl (mA_X5_reset (ws := (W_X5_reset 826 ++ (W_X5_reset 815 ++ (W_X2_reset 811 ++ (W_X9_reset 808 ++ ([(2, 807, 0, 300, (nI 0))] ++ (W_X0_reset 1))))))) hst (sh_sub 837 hs (by decide +kernel) (by decide +kernel))) rfl (kq apq (fk hs 33 rfl)) rfl rfl (by decide) (by decide) (Nat.le_of_ble_eq_true rfl) (by decide) ?_
  refine ex_iincx (w := (nI 3)) ok_X11_resetAll (mi 23 rfl) rfl (by decide) ?_
  refine ex_goto (tgt := 31) ok_X11_resetAll (mi 24 rfl) rfl ?_
  refine ex_ls (ls' := [(0, .ref x), (1, .int (nI 3))]) ⟨rfl, rfl, trivial⟩ ?_
  refine ex_iload_n ok_X11_resetAll (mi 15 rfl) rfl ?_
  refine ex_iconst ok_X11_resetAll (mi 16 rfl) ?_
  refine ex_icmp_ge (tgt := 51) ok_X11_resetAll (mi 17 rfl) rfl (fun _ => ?_) (fun hn => absurd (by decide) hn)
  refine ex_iconst ok_X11_resetAll (mi 25 rfl) ?_
  refine ex_istore_n ok_X11_resetAll (mi 26 rfl) ?_
  refine ex_iload_n ok_X11_resetAll (mi 27 rfl) rfl ?_
  refine ex_bipush ok_X11_resetAll (mi 28 rfl) ?_
  refine ex_icmp_ge (tgt := 74) ok_X11_resetAll (mi 29 rfl) rfl (fun hn => absurd hn (by decide)) (fun _ => ?_)
  refine ex_aload_n ok_X11_resetAll (mi 30 rfl) rfl ?_
  refine ex_getRx ok_X11_resetAll (mi 31 rfl) rfl rfl (kq apq (fk hs 0 rfl)) (rq apq (fr hs 55 rfl)) (kq apq (fk hs 44 rfl)) (by decide) ?_
  refine ex_iload_n ok_X11_resetAll (mi 32 rfl) rfl ?_
  refine ex_aaldx (n := 2) ok_X11_resetAll (mi 33 rfl) (by decide) (kq apq (fk hs 44 rfl)) (nq apq (fn hs 44 rfl)) (pk_in 0 9 (by decide)) (oq apq (fo ho 3 rfl)) (kq apq (fk hs 45 rfl)) (by decide) ?_
  refine ex_callVr (As := []) (v := none) (g1 := (ap x (W_X3_reset 2 0 849 ++ (W_X5_reset 837 ++ (W_X5_reset 826 ++ (W_X5_reset 815 ++ (W_X2_reset 811 ++ (W_X9_reset 808 ++ ([(2, 807, 0, 300, (nI 0))] ++ (W_X0_reset 1)))))))) h)) ok_X11_resetAll (mi 34 rfl) rfl (mA_X3_reset1 (ws := (W_X5_reset 837 ++ (W_X5_reset 826 ++ (W_X5_reset 815 ++ (W_X2_reset 811 ++ (W_X9_reset 808 ++ ([(2, 807, 0, 300, (nI 0))] ++ (W_X0_reset 1)))))))) hst (sh_sub 849 hs (by decide +kernel) (by decide +kernel)) (fi hi 9 rfl) (by decide +kernel) (by decide)) rfl (kq apq (fk hs 45 rfl)) rfl rfl (by decide) (by decide) (Nat.le_of_ble_eq_true rfl) (by decide) ?_
  refine ex_iincx (w := (nI 1)) ok_X11_resetAll (mi 35 rfl) rfl (by decide) ?_
  refine ex_goto (tgt := 53) ok_X11_resetAll (mi 36 rfl) rfl ?_
  refine ex_ls (ls' := [(0, .ref x), (1, .int (nI 1))]) ⟨rfl, rfl, trivial⟩ ?_
  refine ex_iload_n ok_X11_resetAll (mi 27 rfl) rfl ?_
  refine ex_bipush ok_X11_resetAll (mi 28 rfl) ?_
  refine ex_icmp_ge (tgt := 74) ok_X11_resetAll (mi 29 rfl) rfl (fun hn => absurd hn (by decide)) (fun _ => ?_)
  refine ex_aload_n ok_X11_resetAll (mi 30 rfl) rfl ?_
  refine ex_getRx ok_X11_resetAll (mi 31 rfl) rfl rfl (kq apq (fk hs 0 rfl)) (rq apq (fr hs 55 rfl)) (kq apq (fk hs 44 rfl)) (by decide) ?_
  refine ex_iload_n ok_X11_resetAll (mi 32 rfl) rfl ?_
  refine ex_aaldx (n := 2) ok_X11_resetAll (mi 33 rfl) (by decide) (kq apq (fk hs 44 rfl)) (nq apq (fn hs 44 rfl)) (pk_in 1 9 (by decide)) (oq apq (fo ho 4 rfl)) (kq apq (fk hs 47 rfl)) (by decide) ?_
  refine ex_callVr (As := []) (v := none) (g1 := (ap x (W_X3_reset 2 0 851 ++ (W_X3_reset 2 0 849 ++ (W_X5_reset 837 ++ (W_X5_reset 826 ++ (W_X5_reset 815 ++ (W_X2_reset 811 ++ (W_X9_reset 808 ++ ([(2, 807, 0, 300, (nI 0))] ++ (W_X0_reset 1))))))))) h)) ok_X11_resetAll (mi 34 rfl) rfl (mA_X3_reset1 (ws := (W_X3_reset 2 0 849 ++ (W_X5_reset 837 ++ (W_X5_reset 826 ++ (W_X5_reset 815 ++ (W_X2_reset 811 ++ (W_X9_reset 808 ++ ([(2, 807, 0, 300, (nI 0))] ++ (W_X0_reset 1))))))))) hst (sh_sub 851 hs (by decide +kernel) (by decide +kernel)) (fi hi 10 rfl) (by decide +kernel) (by decide)) rfl (kq apq (fk hs 47 rfl)) rfl rfl (by decide) (by decide) (Nat.le_of_ble_eq_true rfl) (by decide) ?_
  refine ex_iincx (w := (nI 2)) ok_X11_resetAll (mi 35 rfl) rfl (by decide) ?_
  refine ex_goto (tgt := 53) ok_X11_resetAll (mi 36 rfl) rfl ?_
  refine ex_ls (ls' := [(0, .ref x), (1, .int (nI 2))]) ⟨rfl, rfl, trivial⟩ ?_
  refine ex_iload_n ok_X11_resetAll (mi 27 rfl) rfl ?_
  refine ex_bipush ok_X11_resetAll (mi 28 rfl) ?_
  refine ex_icmp_ge (tgt := 74) ok_X11_resetAll (mi 29 rfl) rfl (fun hn => absurd hn (by decide)) (fun _ => ?_)
  refine ex_aload_n ok_X11_resetAll (mi 30 rfl) rfl ?_
  refine ex_getRx ok_X11_resetAll (mi 31 rfl) rfl rfl (kq apq (fk hs 0 rfl)) (rq apq (fr hs 55 rfl)) (kq apq (fk hs 44 rfl)) (by decide) ?_
  refine ex_iload_n ok_X11_resetAll (mi 32 rfl) rfl ?_
  refine ex_aaldx (n := 2) ok_X11_resetAll (mi 33 rfl) (by decide) (kq apq (fk hs 44 rfl)) (nq apq (fn hs 44 rfl)) (pk_in 2 9 (by decide)) (oq apq (fo ho 5 rfl)) (kq apq (fk hs 49 rfl)) (by decide) ?_
  refine ex_callVr (As := []) (v := none) (g1 := (ap x (W_X3_reset 2 0 853 ++ (W_X3_reset 2 0 851 ++ (W_X3_reset 2 0 849 ++ (W_X5_reset 837 ++ (W_X5_reset 826 ++ (W_X5_reset 815 ++ (W_X2_reset 811 ++ (W_X9_reset 808 ++ ([(2, 807, 0, 300, (nI 0))] ++ (W_X0_reset 1)))))))))) h)) ok_X11_resetAll (mi 34 rfl) rfl (mA_X3_reset1 (ws := (W_X3_reset 2 0 851 ++ (W_X3_reset 2 0 849 ++ (W_X5_reset 837 ++ (W_X5_reset 826 ++ (W_X5_reset 815 ++ (W_X2_reset 811 ++ (W_X9_reset 808 ++ ([(2, 807, 0, 300, (nI 0))] ++ (W_X0_reset 1)))))))))) hst (sh_sub 853 hs (by decide +kernel) (by decide +kernel)) (fi hi 11 rfl) (by decide +kernel) (by decide)) rfl (kq apq (fk hs 49 rfl)) rfl rfl (by decide) (by decide) (Nat.le_of_ble_eq_true rfl) (by decide) ?_
  refine ex_iincx (w := (nI 3)) ok_X11_resetAll (mi 35 rfl) rfl (by decide) ?_
  refine ex_goto (tgt := 53) ok_X11_resetAll (mi 36 rfl) rfl ?_
  refine ex_ls (ls' := [(0, .ref x), (1, .int (nI 3))]) ⟨rfl, rfl, trivial⟩ ?_
  refine ex_iload_n ok_X11_resetAll (mi 27 rfl) rfl ?_
  refine ex_bipush ok_X11_resetAll (mi 28 rfl) ?_
  refine ex_icmp_ge (tgt := 74) ok_X11_resetAll (mi 29 rfl) rfl (fun hn => absurd hn (by decide)) (fun _ => ?_)
  refine ex_aload_n ok_X11_resetAll (mi 30 rfl) rfl ?_
  refine ex_getRx ok_X11_resetAll (mi 31 rfl) rfl rfl (kq apq (fk hs 0 rfl)) (rq apq (fr hs 55 rfl)) (kq apq (fk hs 44 rfl)) (by decide) ?_
  refine ex_iload_n ok_X11_resetAll (mi 32 rfl) rfl ?_
  refine ex_aaldx (n := 2) ok_X11_resetAll (mi 33 rfl) (by decide) (kq apq (fk hs 44 rfl)) (nq apq (fn hs 44 rfl)) (pk_in 3 9 (by decide)) (oq apq (fo ho 6 rfl)) (kq apq (fk hs 51 rfl)) (by decide) ?_
  refine ex_callVr (As := []) (v := none) (g1 := (ap x (W_X3_reset 0 (-1) 855 ++ (W_X3_reset 2 0 853 ++ (W_X3_reset 2 0 851 ++ (W_X3_reset 2 0 849 ++ (W_X5_reset 837 ++ (W_X5_reset 826 ++ (W_X5_reset 815 ++ (W_X2_reset 811 ++ (W_X9_reset 808 ++ ([(2, 807, 0, 300, (nI 0))] ++ (W_X0_reset 1))))))))))) h)) ok_X11_resetAll (mi 34 rfl) rfl (mA_X3_reset0 (ws := (W_X3_reset 2 0 853 ++ (W_X3_reset 2 0 851 ++ (W_X3_reset 2 0 849 ++ (W_X5_reset 837 ++ (W_X5_reset 826 ++ (W_X5_reset 815 ++ (W_X2_reset 811 ++ (W_X9_reset 808 ++ ([(2, 807, 0, 300, (nI 0))] ++ (W_X0_reset 1))))))))))) hst (sh_sub 855 hs (by decide +kernel) (by decide +kernel)) (fi hi 12 rfl) (by decide +kernel) (by decide)) rfl (kq apq (fk hs 51 rfl)) rfl rfl (by decide) (by decide) (Nat.le_of_ble_eq_true rfl) (by decide) ?_
  refine ex_iincx (w := (nI 4)) ok_X11_resetAll (mi 35 rfl) rfl (by decide) ?_
  refine ex_goto (tgt := 53) ok_X11_resetAll (mi 36 rfl) rfl ?_
  refine ex_ls (ls' := [(0, .ref x), (1, .int (nI 4))]) ⟨rfl, rfl, trivial⟩ ?_
  refine ex_iload_n ok_X11_resetAll (mi 27 rfl) rfl ?_
  refine ex_bipush ok_X11_resetAll (mi 28 rfl) ?_
  refine ex_icmp_ge (tgt := 74) ok_X11_resetAll (mi 29 rfl) rfl (fun hn => absurd hn (by decide)) (fun _ => ?_)
  refine ex_aload_n ok_X11_resetAll (mi 30 rfl) rfl ?_
  refine ex_getRx ok_X11_resetAll (mi 31 rfl) rfl rfl (kq apq (fk hs 0 rfl)) (rq apq (fr hs 55 rfl)) (kq apq (fk hs 44 rfl)) (by decide) ?_
  refine ex_iload_n ok_X11_resetAll (mi 32 rfl) rfl ?_
  refine ex_aaldx (n := 2) ok_X11_resetAll (mi 33 rfl) (by decide) (kq apq (fk hs 44 rfl)) (nq apq (fn hs 44 rfl)) (pk_in 4 9 (by decide)) (oq apq (fo ho 7 rfl)) (kq apq (fk hs 53 rfl)) (by decide) ?_
  refine ex_callVr (As := []) (v := none) (g1 := (ap x (W_X3_reset 0 (-1) 857 ++ (W_X3_reset 0 (-1) 855 ++ (W_X3_reset 2 0 853 ++ (W_X3_reset 2 0 851 ++ (W_X3_reset 2 0 849 ++ (W_X5_reset 837 ++ (W_X5_reset 826 ++ (W_X5_reset 815 ++ (W_X2_reset 811 ++ (W_X9_reset 808 ++ ([(2, 807, 0, 300, (nI 0))] ++ (W_X0_reset 1)))))))))))) h)) ok_X11_resetAll (mi 34 rfl) rfl (mA_X3_reset0 (ws := (W_X3_reset 0 (-1) 855 ++ (W_X3_reset 2 0 853 ++ (W_X3_reset 2 0 851 ++ (W_X3_reset 2 0 849 ++ (W_X5_reset 837 ++ (W_X5_reset 826 ++ (W_X5_reset 815 ++ (W_X2_reset 811 ++ (W_X9_reset 808 ++ ([(2, 807, 0, 300, (nI 0))] ++ (W_X0_reset 1)))))))))))) hst (sh_sub 857 hs (by decide +kernel) (by decide +kernel)) (fi hi 13 rfl) (by decide +kernel) (by decide)) rfl (kq apq (fk hs 53 rfl)) rfl rfl (by decide) (by decide) (Nat.le_of_ble_eq_true rfl) (by decide) ?_
  refine ex_iincx (w := (nI 5)) ok_X11_resetAll (mi 35 rfl) rfl (by decide) ?_
  refine ex_goto (tgt := 53) ok_X11_resetAll (mi 36 rfl) rfl ?_
  refine ex_ls (ls' := [(0, .ref x), (1, .int (nI 5))]) ⟨rfl, rfl, trivial⟩ ?_
  refine ex_iload_n ok_X11_resetAll (mi 27 rfl) rfl ?_
  refine ex_bipush ok_X11_resetAll (mi 28 rfl) ?_
  refine ex_icmp_ge (tgt := 74) ok_X11_resetAll (mi 29 rfl) rfl (fun hn => absurd hn (by decide)) (fun _ => ?_)
  refine ex_aload_n ok_X11_resetAll (mi 30 rfl) rfl ?_
  refine ex_getRx ok_X11_resetAll (mi 31 rfl) rfl rfl (kq apq (fk hs 0 rfl)) (rq apq (fr hs 55 rfl)) (kq apq (fk hs 44 rfl)) (by decide) ?_
  refine ex_iload_n ok_X11_resetAll (mi 32 rfl) rfl ?_
  refine ex_aaldx (n := 2) ok_X11_resetAll (mi 33 rfl) (by decide) (kq apq (fk hs 44 rfl)) (nq apq (fn hs 44 rfl)) (pk_in 5 9 (by decide)) (oq apq (fo ho 8 rfl)) (kq apq (fk hs 55 rfl)) (by decide) ?_
  refine ex_callVr (As := []) (v := none) (g1 := (ap x (W_X3_reset 0 (-1) 859 ++ (W_X3_reset 0 (-1) 857 ++ (W_X3_reset 0 (-1) 855 ++ (W_X3_reset 2 0 853 ++ (W_X3_reset 2 0 851 ++ (W_X3_reset 2 0 849 ++ (W_X5_reset 837 ++ (W_X5_reset 826 ++ (W_X5_reset 815 ++ (W_X2_reset 811 ++ (W_X9_reset 808 ++ ([(2, 807, 0, 300, (nI 0))] ++ (W_X0_reset 1))))))))))))) h)) ok_X11_resetAll (mi 34 rfl) rfl (mA_X3_reset0 (ws := (W_X3_reset 0 (-1) 857 ++ (W_X3_reset 0 (-1) 855 ++ (W_X3_reset 2 0 853 ++ (W_X3_reset 2 0 851 ++ (W_X3_reset 2 0 849 ++ (W_X5_reset 837 ++ (W_X5_reset 826 ++ (W_X5_reset 815 ++ (W_X2_reset 811 ++ (W_X9_reset 808 ++ ([(2, 807, 0, 300, (nI 0))] ++ (W_X0_reset 1))))))))))))) hst (sh_sub 859 hs (by decide +kernel) (by decide +kernel)) (fi hi 14 rfl) (by decide +kernel) (by decide)) rfl (kq apq (fk hs 55 rfl)) rfl rfl (by decide) (by decide) (Nat.le_of_ble_eq_true rfl) (by decide) ?_
  refine ex_iincx (w := (nI 6)) ok_X11_resetAll (mi 35 rfl) rfl (by decide) ?_
  refine ex_goto (tgt := 53) ok_X11_resetAll (mi 36 rfl) rfl ?_
  refine ex_ls (ls' := [(0, .ref x), (1, .int (nI 6))]) ⟨rfl, rfl, trivial⟩ ?_
  refine ex_iload_n ok_X11_resetAll (mi 27 rfl) rfl ?_
  refine ex_bipush ok_X11_resetAll (mi 28 rfl) ?_
  refine ex_icmp_ge (tgt := 74) ok_X11_resetAll (mi 29 rfl) rfl (fun hn => absurd hn (by decide)) (fun _ => ?_)
  refine ex_aload_n ok_X11_resetAll (mi 30 rfl) rfl ?_
  refine ex_getRx ok_X11_resetAll (mi 31 rfl) rfl rfl (kq apq (fk hs 0 rfl)) (rq apq (fr hs 55 rfl)) (kq apq (fk hs 44 rfl)) (by decide) ?_
  refine ex_iload_n ok_X11_resetAll (mi 32 rfl) rfl ?_
  refine ex_aaldx (n := 2) ok_X11_resetAll (mi 33 rfl) (by decide) (kq apq (fk hs 44 rfl)) (nq apq (fn hs 44 rfl)) (pk_in 6 9 (by decide)) (oq apq (fo ho 9 rfl)) (kq apq (fk hs 57 rfl)) (by decide) ?_
  refine ex_callVr (As := []) (v := none) (g1 := (ap x (W_X3_reset 0 (-1) 861 ++ (W_X3_reset 0 (-1) 859 ++ (W_X3_reset 0 (-1) 857 ++ (W_X3_reset 0 (-1) 855 ++ (W_X3_reset 2 0 853 ++ (W_X3_reset 2 0 851 ++ (W_X3_reset 2 0 849 ++ (W_X5_reset 837 ++ (W_X5_reset 826 ++ (W_X5_reset 815 ++ (W_X2_reset 811 ++ (W_X9_reset 808 ++ ([(2, 807, 0, 300, (nI 0))] ++ (W_X0_reset 1)))))))))))))) h)) ok_X11_resetAll (mi 34 rfl) rfl (mA_X3_reset0 (ws := (W_X3_reset 0 (-1) 859 ++ (W_X3_reset 0 (-1) 857 ++ (W_X3_reset 0 (-1) 855 ++ (W_X3_reset 2 0 853 ++ (W_X3_reset 2 0 851 ++ (W_X3_reset 2 0 849 ++ (W_X5_reset 837 ++ (W_X5_reset 826 ++ (W_X5_reset 815 ++ (W_X2_reset 811 ++ (W_X9_reset 808 ++ ([(2, 807, 0, 300, (nI 0))] ++ (W_X0_reset 1)))))))))))))) hst (sh_sub 861 hs (by decide +kernel) (by decide +kernel)) (fi hi 15 rfl) (by decide +kernel) (by decide)) rfl (kq apq (fk hs 57 rfl)) rfl rfl (by decide) (by decide) (Nat.le_of_ble_eq_true rfl) (by decide) ?_
  refine ex_iincx (w := (nI 7)) ok_X11_resetAll (mi 35 rfl) rfl (by decide) ?_
  refine ex_goto (tgt := 53) ok_X11_resetAll (mi 36 rfl) rfl ?_
  refine ex_ls (ls' := [(0, .ref x), (1, .int (nI 7))]) ⟨rfl, rfl, trivial⟩ ?_
  refine ex_iload_n ok_X11_resetAll (mi 27 rfl) rfl ?_
  refine ex_bipush ok_X11_resetAll (mi 28 rfl) ?_
  refine ex_icmp_ge (tgt := 74) ok_X11_resetAll (mi 29 rfl) rfl (fun hn => absurd hn (by decide)) (fun _ => ?_)
  refine ex_aload_n ok_X11_resetAll (mi 30 rfl) rfl ?_
  refine ex_getRx ok_X11_resetAll (mi 31 rfl) rfl rfl (kq apq (fk hs 0 rfl)) (rq apq (fr hs 55 rfl)) (kq apq (fk hs 44 rfl)) (by decide) ?_
  refine ex_iload_n ok_X11_resetAll (mi 32 rfl) rfl ?_
  refine ex_aaldx (n := 2) ok_X11_resetAll (mi 33 rfl) (by decide) (kq apq (fk hs 44 rfl)) (nq apq (fn hs 44 rfl)) (pk_in 7 9 (by decide)) (oq apq (fo ho 10 rfl)) (kq apq (fk hs 59 rfl)) (by decide) ?_
  refine ex_callVr (As := []) (v := none) (g1 := (ap x (W_X3_reset 0 (-1) 863 ++ (W_X3_reset 0 (-1) 861 ++ (W_X3_reset 0 (-1) 859 ++ (W_X3_reset 0 (-1) 857 ++ (W_X3_reset 0 (-1) 855 ++ (W_X3_reset 2 0 853 ++ (W_X3_reset 2 0 851 ++ (W_X3_reset 2 0 849 ++ (W_X5_reset 837 ++ (W_X5_reset 826 ++ (W_X5_reset 815 ++ (W_X2_reset 811 ++ (W_X9_reset 808 ++ ([(2, 807, 0, 300, (nI 0))] ++ (W_X0_reset 1))))))))))))))) h)) ok_X11_resetAll (mi 34 rfl) rfl (mA_X3_reset0 (ws := (W_X3_reset 0 (-1) 861 ++ (W_X3_reset 0 (-1) 859 ++ (W_X3_reset 0 (-1) 857 ++ (W_X3_reset 0 (-1) 855 ++ (W_X3_reset 2 0 853 ++ (W_X3_reset 2 0 851 ++ (W_X3_reset 2 0 849 ++ (W_X5_reset 837 ++ (W_X5_reset 826 ++ (W_X5_reset 815 ++ (W_X2_reset 811 ++ (W_X9_reset 808 ++ ([(2, 807, 0, 300, (nI 0))] ++ (W_X0_reset 1))))))))))))))) hst (sh_sub 863 hs (by decide +kernel) (by decide +kernel)) (fi hi 16 rfl) (by decide +kernel) (by decide)) rfl (kq apq (fk hs 59 rfl)) rfl rfl (by decide) (by decide) (Nat.le_of_ble_eq_true rfl) (by decide) ?_
  refine ex_iincx (w := (nI 8)) ok_X11_resetAll (mi 35 rfl) rfl (by decide) ?_
  refine ex_goto (tgt := 53) ok_X11_resetAll (mi 36 rfl) rfl ?_
  refine ex_ls (ls' := [(0, .ref x), (1, .int (nI 8))]) ⟨rfl, rfl, trivial⟩ ?_
  refine ex_iload_n ok_X11_resetAll (mi 27 rfl) rfl ?_
  refine ex_bipush ok_X11_resetAll (mi 28 rfl) ?_
  refine ex_icmp_ge (tgt := 74) ok_X11_resetAll (mi 29 rfl) rfl (fun hn => absurd hn (by decide)) (fun _ => ?_)
  refine ex_aload_n ok_X11_resetAll (mi 30 rfl) rfl ?_
  refine ex_getRx ok_X11_resetAll (mi 31 rfl) rfl rfl (kq apq (fk hs 0 rfl)) (rq apq (fr hs 55 rfl)) (kq apq (fk hs 44 rfl)) (by decide) ?_
  refine ex_iload_n ok_X11_resetAll (mi 32 rfl) rfl ?_
  refine ex_aaldx (n := 2) ok_X11_resetAll (mi 33 rfl) (by decide) (kq apq (fk hs 44 rfl)) (nq apq (fn hs 44 rfl)) (pk_in 8 9 (by decide)) (oq apq (fo ho 11 rfl)) (kq apq (fk hs 61 rfl)) (by decide) ?_
  refine ex_callVr (As := []) (v := none) (g1 := (ap x (W_X3_reset 0 (-1) 865 ++ (W_X3_reset 0 (-1) 863 ++ (W_X3_reset 0 (-1) 861 ++ (W_X3_reset 0 (-1) 859 ++ (W_X3_reset 0 (-1) 857 ++ (W_X3_reset 0 (-1) 855 ++ (W_X3_reset 2 0 853 ++ (W_X3_reset 2 0 851 ++ (W_X3_reset 2 0 849 ++ (W_X5_reset 837 ++ (W_X5_reset 826 ++ (W_X5_reset 815 ++ (W_X2_reset 811 ++ (W_X9_reset 808 ++ ([(2, 807, 0, 300, (nI 0))] ++ (W_X0_reset 1)))))))))))))))) h)) ok_X11_resetAll (mi 34 rfl) rfl (mA_X3_reset0 (ws := (W_X3_reset 0 (-1) 863 ++ (W_X3_reset 0 (-1) 861 ++ (W_X3_reset 0 (-1) 859 ++ (W_X3_reset 0 (-1) 857 ++ (W_X3_reset 0 (-1) 855 ++ (W_X3_reset 2 0 853 ++ (W_X3_reset 2 0 851 ++ (W_X3_reset 2 0 849 ++ (W_X5_reset 837 ++ (W_X5_reset 826 ++ (W_X5_reset 815 ++ (W_X2_reset 811 ++ (W_X9_reset 808 ++ ([(2, 807, 0, 300, (nI 0))] ++ (W_X0_reset 1)))))))))))))))) hst (sh_sub 865 hs (by decide +kernel) (by decide +kernel)) (fi hi 17 rfl) (by decide +kernel) (by decide)) rfl (kq apq (fk hs 61 rfl)) rfl rfl (by decide) (by decide) (Nat.le_of_ble_eq_true rfl) (by decide) ?_
  refine ex_iincx (w := (nI 9)) ok_X11_resetAll (mi 35 rfl) rfl (by decide) ?_
  refine ex_goto (tgt := 53) ok_X11_resetAll (mi 36 rfl) rfl ?_
  refine ex_ls (ls' := [(0, .ref x), (1, .int (nI 9))]) ⟨rfl, rfl, trivial⟩ ?_
  refine ex_iload_n ok_X11_resetAll (mi 27 rfl) rfl ?_
  refine ex_bipush ok_X11_resetAll (mi 28 rfl) ?_
  refine ex_icmp_ge (tgt := 74) ok_X11_resetAll (mi 29 rfl) rfl (fun _ => ?_) (fun hn => absurd (by decide) hn)
  refine ex_iconst ok_X11_resetAll (mi 37 rfl) ?_
  refine ex_istore_n ok_X11_resetAll (mi 38 rfl) ?_
  refine ex_iload_n ok_X11_resetAll (mi 39 rfl) rfl ?_
  refine ex_bipush ok_X11_resetAll (mi 40 rfl) ?_
  refine ex_icmp_ge (tgt := 97) ok_X11_resetAll (mi 41 rfl) rfl (fun hn => absurd hn (by decide)) (fun _ => ?_)
  refine ex_aload_n ok_X11_resetAll (mi 42 rfl) rfl ?_
  refine ex_getRx ok_X11_resetAll (mi 43 rfl) rfl rfl (kq apq (fk hs 0 rfl)) (rq apq (fr hs 83 rfl)) (kq apq (fk hs 63 rfl)) (by decide) ?_
  refine ex_iload_n ok_X11_resetAll (mi 44 rfl) rfl ?_
  refine ex_aaldx (n := 3) ok_X11_resetAll (mi 45 rfl) (by decide) (kq apq (fk hs 63 rfl)) (nq apq (fn hs 63 rfl)) (pk_in 0 12 (by decide)) (oq apq (fo ho 12 rfl)) (kq apq (fk hs 64 rfl)) (by decide) ?_
  refine ex_callVr (As := []) (v := none) (g1 := (ap x (W_X10_reset 868 ++ (W_X3_reset 0 (-1) 865 ++ (W_X3_reset 0 (-1) 863 ++ (W_X3_reset 0 (-1) 861 ++ (W_X3_reset 0 (-1) 859 ++ (W_X3_reset 0 (-1) 857 ++ (W_X3_reset 0 (-1) 855 ++ (W_X3_reset 2 0 853 ++ (W_X3_reset 2 0 851 ++ (W_X3_reset 2 0 849 ++ (W_X5_reset 837 ++ (W_X5_reset 826 ++ (W_X5_reset 815 ++ (W_X2_reset 811 ++ (W_X9_reset 808 ++ ([(2, 807, 0, 300, (nI 0))] ++ (W_X0_reset 1))))))))))))))))) h)) ok_X11_resetAll (mi 46 rfl) rfl (mA_X10_reset (ws := (W_X3_reset 0 (-1) 865 ++ (W_X3_reset 0 (-1) 863 ++ (W_X3_reset 0 (-1) 861 ++ (W_X3_reset 0 (-1) 859 ++ (W_X3_reset 0 (-1) 857 ++ (W_X3_reset 0 (-1) 855 ++ (W_X3_reset 2 0 853 ++ (W_X3_reset 2 0 851 ++ (W_X3_reset 2 0 849 ++ (W_X5_reset 837 ++ (W_X5_reset 826 ++ (W_X5_reset 815 ++ (W_X2_reset 811 ++ (W_X9_reset 808 ++ ([(2, 807, 0, 300, (nI 0))] ++ (W_X0_reset 1))))))))))))))))) hst (sh_sub 868 hs (by decide +kernel) (by decide +kernel))) rfl (kq apq (fk hs 64 rfl)) rfl rfl (by decide) (by decide) (Nat.le_of_ble_eq_true rfl) (by decide) ?_
  refine ex_iincx (w := (nI 1)) ok_X11_resetAll (mi 47 rfl) rfl (by decide) ?_
  refine ex_goto (tgt := 76) ok_X11_resetAll (mi 48 rfl) rfl ?_
  refine ex_ls (ls' := [(0, .ref x), (1, .int (nI 1))]) ⟨rfl, rfl, trivial⟩ ?_
  refine ex_iload_n ok_X11_resetAll (mi 39 rfl) rfl ?_
  refine ex_bipush ok_X11_resetAll (mi 40 rfl) ?_
  refine ex_icmp_ge (tgt := 97) ok_X11_resetAll (mi 41 rfl) rfl (fun hn => absurd hn (by decide)) (fun _ => ?_)
  refine ex_aload_n ok_X11_resetAll (mi 42 rfl) rfl ?_
  refine ex_getRx ok_X11_resetAll (mi 43 rfl) rfl rfl (kq apq (fk hs 0 rfl)) (rq apq (fr hs 83 rfl)) (kq apq (fk hs 63 rfl)) (by decide) ?_
  refine ex_iload_n ok_X11_resetAll (mi 44 rfl) rfl ?_
  refine ex_aaldx (n := 3) ok_X11_resetAll (mi 45 rfl) (by decide) (kq apq (fk hs 63 rfl)) (nq apq (fn hs 63 rfl)) (pk_in 1 12 (by decide)) (oq apq (fo ho 13 rfl)) (kq apq (fk hs 66 rfl)) (by decide) ?_
  refine ex_callVr (As := []) (v := none) (g1 := (ap x (W_X10_reset 870 ++ (W_X10_reset 868 ++ (W_X3_reset 0 (-1) 865 ++ (W_X3_reset 0 (-1) 863 ++ (W_X3_reset 0 (-1) 861 ++ (W_X3_reset 0 (-1) 859 ++ (W_X3_reset 0 (-1) 857 ++ (W_X3_reset 0 (-1) 855 ++ (W_X3_reset 2 0 853 ++ (W_X3_reset 2 0 851 ++ (W_X3_reset 2 0 849 ++ (W_X5_reset 837 ++ (W_X5_reset 826 ++ (W_X5_reset 815 ++ (W_X2_reset 811 ++ (W_X9_reset 808 ++ ([(2, 807, 0, 300, (nI 0))] ++ (W_X0_reset 1)))))))))))))))))) h)) ok_X11_resetAll (mi 46 rfl) rfl (mA_X10_reset (ws := (W_X10_reset 868 ++ (W_X3_reset 0 (-1) 865 ++ (W_X3_reset 0 (-1) 863 ++ (W_X3_reset 0 (-1) 861 ++ (W_X3_reset 0 (-1) 859 ++ (W_X3_reset 0 (-1) 857 ++ (W_X3_reset 0 (-1) 855 ++ (W_X3_reset 2 0 853 ++ (W_X3_reset 2 0 851 ++ (W_X3_reset 2 0 849 ++ (W_X5_reset 837 ++ (W_X5_reset 826 ++ (W_X5_reset 815 ++ (W_X2_reset 811 ++ (W_X9_reset 808 ++ ([(2, 807, 0, 300, (nI 0))] ++ (W_X0_reset 1)))))))))))))))))) hst (sh_sub 870 hs (by decide +kernel) (by decide +kernel))) rfl (kq apq (fk hs 66 rfl)) rfl rfl (by decide) (by decide) (Nat.le_of_ble_eq_true rfl) (by decide) ?_
  refine ex_iincx (w := (nI 2)) ok_X11_resetAll (mi 47 rfl) rfl (by decide) ?_
  refine ex_goto (tgt := 76) ok_X11_resetAll (mi 48 rfl) rfl ?_
  refine ex_ls (ls' := [(0, .ref x), (1, .int (nI 2))]) ⟨rfl, rfl, trivial⟩ ?_
  refine ex_iload_n ok_X11_resetAll (mi 39 rfl) rfl ?_
  refine ex_bipush ok_X11_resetAll (mi 40 rfl) ?_
  refine ex_icmp_ge (tgt := 97) ok_X11_resetAll (mi 41 rfl) rfl (fun hn => absurd hn (by decide)) (fun _ => ?_)
  refine ex_aload_n ok_X11_resetAll (mi 42 rfl) rfl ?_
  refine ex_getRx ok_X11_resetAll (mi 43 rfl) rfl rfl (kq apq (fk hs 0 rfl)) (rq apq (fr hs 83 rfl)) (kq apq (fk hs 63 rfl)) (by decide) ?_
  refine ex_iload_n ok_X11_resetAll (mi 44 rfl) rfl ?_
  refine ex_aaldx (n := 3) ok_X11_resetAll (mi 45 rfl) (by decide) (kq apq (fk hs 63 rfl)) (nq apq (fn hs 63 rfl)) (pk_in 2 12 (by decide)) (oq apq (fo ho 14 rfl)) (kq apq (fk hs 68 rfl)) (by decide) ?_
  refine ex_callVr (As := []) (v := none) (g1 := (ap x (W_X10_reset 872 ++ (W_X10_reset 870 ++ (W_X10_reset 868 ++ (W_X3_reset 0 (-1) 865 ++ (W_X3_reset 0 (-1) 863 ++ (W_X3_reset 0 (-1) 861 ++ (W_X3_reset 0 (-1) 859 ++ (W_X3_reset 0 (-1) 857 ++ (W_X3_reset 0 (-1) 855 ++ (W_X3_reset 2 0 853 ++ (W_X3_reset 2 0 851 ++ (W_X3_reset 2 0 849 ++ (W_X5_reset 837 ++ (W_X5_reset 826 ++ (W_X5_reset 815 ++ (W_X2_reset 811 ++ (W_X9_reset 808 ++ ([(2, 807, 0, 300, (nI 0))] ++ (W_X0_reset 1))))))))))))))))))) h)) ok_X11_resetAll (mi 46 rfl) rfl (mA_X10_reset (ws := (W_X10_reset 870 ++ (W_X10_reset 868 ++ (W_X3_reset 0 (-1) 865 ++ (W_X3_reset 0 (-1) 863 ++ (W_X3_reset 0 (-1) 861 ++ (W_X3_reset 0 (-1) 859 ++ (W_X3_reset 0 (-1) 857 ++ (W_X3_reset 0 (-1) 855 ++ (W_X3_reset 2 0 853 ++ (W_X3_reset 2 0 851 ++ (W_X3_reset 2 0 849 ++ (W_X5_reset 837 ++ (W_X5_reset 826 ++ (W_X5_reset 815 ++ (W_X2_reset 811 ++ (W_X9_reset 808 ++ ([(2, 807, 0, 300, (nI 0))] ++ (W_X0_reset 1))))))))))))))))))) hst (sh_sub 872 hs (by decide +kernel) (by decide +kernel))) rfl (kq apq (fk hs 68 rfl)) rfl rfl (by decide) (by decide) (Nat.le_of_ble_eq_true rfl) (by decide) ?_
  refine ex_iincx (w := (nI 3)) ok_X11_resetAll (mi 47 rfl) rfl (by decide) ?_
  refine ex_goto (tgt := 76) ok_X11_resetAll (mi 48 rfl) rfl ?_
  refine ex_ls (ls' := [(0, .ref x), (1, .int (nI 3))]) ⟨rfl, rfl, trivial⟩ ?_
  refine ex_iload_n ok_X11_resetAll (mi 39 rfl) rfl ?_
  refine ex_bipush ok_X11_resetAll (mi 40 rfl) ?_
  refine ex_icmp_ge (tgt := 97) ok_X11_resetAll (mi 41 rfl) rfl (fun hn => absurd hn (by decide)) (fun _ => ?_)
  refine ex_aload_n ok_X11_resetAll (mi 42 rfl) rfl ?_
  refine ex_getRx ok_X11_resetAll (mi 43 rfl) rfl rfl (kq apq (fk hs 0 rfl)) (rq apq (fr hs 83 rfl)) (kq apq (fk hs 63 rfl)) (by decide) ?_
  refine ex_iload_n ok_X11_resetAll (mi 44 rfl) rfl ?_
  refine ex_aaldx (n := 3) ok_X11_resetAll (mi 45 rfl) (by decide) (kq apq (fk hs 63 rfl)) (nq apq (fn hs 63 rfl)) (pk_in 3 12 (by decide)) (oq apq (fo ho 15 rfl)) (kq apq (fk hs 70 rfl)) (by decide) ?_
  refine ex_callVr (As := []) (v := none) (g1 := (ap x (W_X10_reset 874 ++ (W_X10_reset 872 ++ (W_X10_reset 870 ++ (W_X10_reset 868 ++ (W_X3_reset 0 (-1) 865 ++ (W_X3_reset 0 (-1) 863 ++ (W_X3_reset 0 (-1) 861 ++ (W_X3_reset 0 (-1) 859 ++ (W_X3_reset 0 (-1) 857 ++ (W_X3_reset 0 (-1) 855 ++ (W_X3_reset 2 0 853 ++ (W_X3_reset 2 0 851 ++ (W_X3_reset 2 0 849 ++ (W_X5_reset 837 ++ (W_X5_reset 826 ++ (W_X5_reset 815 ++ (W_X2_reset 811 ++ (W_X9_reset 808 ++ ([(2, 807, 0, 300, (nI 0))] ++ (W_X0_reset 1)))))))))))))))))))) h)) ok_X11_resetAll (mi 46 rfl) rfl (mA_X10_reset (ws := (W_X10_reset 872 ++ (W_X10_reset 870 ++ (W_X10_reset 868 ++ (W_X3_reset 0 (-1) 865 ++ (W_X3_reset 0 (-1) 863 ++ (W_X3_reset 0 (-1) 861 ++ (W_X3_reset 0 (-1) 859 ++ (W_X3_reset 0 (-1) 857 ++ (W_X3_reset 0 (-1) 855 ++ (W_X3_reset 2 0 853 ++ (W_X3_reset 2 0 851 ++ (W_X3_reset 2 0 849 ++ (W_X5_reset 837 ++ (W_X5_reset 826 ++ (W_X5_reset 815 ++ (W_X2_reset 811 ++ (W_X9_reset 808 ++ ([(2, 807, 0, 300, (nI 0))] ++ (W_X0_reset 1)))))))))))))))))))) hst (sh_sub 874 hs (by decide +kernel) (by decide +kernel))) rfl (kq apq (fk hs 70 rfl)) rfl rfl (by decide) (by decide) (Nat.le_of_ble_eq_true rfl) (by decide) ?_
  refine ex_iincx (w := (nI 4)) ok_X11_resetAll (mi 47 rfl) rfl (by decide) ?_
  refine ex_goto (tgt := 76) ok_X11_resetAll (mi 48 rfl) rfl ?_
  refine ex_ls (ls' := [(0, .ref x), (1, .int (nI 4))]) ⟨rfl, rfl, trivial⟩ ?_
  refine ex_iload_n ok_X11_resetAll (mi 39 rfl) rfl ?_
  refine ex_bipush ok_X11_resetAll (mi 40 rfl) ?_
  refine ex_icmp_ge (tgt := 97) ok_X11_resetAll (mi 41 rfl) rfl (fun hn => absurd hn (by decide)) (fun _ => ?_)
  refine ex_aload_n ok_X11_resetAll (mi 42 rfl) rfl ?_
  refine ex_getRx ok_X11_resetAll (mi 43 rfl) rfl rfl (kq apq (fk hs 0 rfl)) (rq apq (fr hs 83 rfl)) (kq apq (fk hs 63 rfl)) (by decide) ?_
  refine ex_iload_n ok_X11_resetAll (mi 44 rfl) rfl ?_
  refine ex_aaldx (n := 3) ok_X11_resetAll (mi 45 rfl) (by decide) (kq apq (fk hs 63 rfl)) (nq apq (fn hs 63 rfl)) (pk_in 4 12 (by decide)) (oq apq (fo ho 16 rfl)) (kq apq (fk hs 72 rfl)) (by decide) ?_
  refine ex_callVr (As := []) (v := none) (g1 := (ap x (W_X10_reset 876 ++ (W_X10_reset 874 ++ (W_X10_reset 872 ++ (W_X10_reset 870 ++ (W_X10_reset 868 ++ (W_X3_reset 0 (-1) 865 ++ (W_X3_reset 0 (-1) 863 ++ (W_X3_reset 0 (-1) 861 ++ (W_X3_reset 0 (-1) 859 ++ (W_X3_reset 0 (-1) 857 ++ (W_X3_reset 0 (-1) 855 ++ (W_X3_reset 2 0 853 ++ (W_X3_reset 2 0 851 ++ (W_X3_reset 2 0 849 ++ (W_X5_reset 837 ++ (W_X5_reset 826 ++ (W_X5_reset 815 ++ (W_X2_reset 811 ++ (W_X9_reset 808 ++ ([(2, 807, 0, 300, (nI 0))] ++ (W_X0_reset 1))))))))))))))))))))) h)) ok_X11_resetAll (mi 46 rfl) rfl (mA_X10_reset (ws := (W_X10_reset 874 ++ (W_X10_reset 872 ++ (W_X10_reset 870 ++ (W_X10_reset 868 ++ (W_X3_reset 0 (-1) 865 ++ (W_X3_reset 0 (-1) 863 ++ (W_X3_reset 0 (-1) 861 ++ (W_X3_reset 0 (-1) 859 ++ (W_X3_reset 0 (-1) 857 ++ (W_X3_reset 0 (-1) 855 ++ (W_X3_reset 2 0 853 ++ (W_X3_reset 2 0 851 ++ (W_X3_reset 2 0 849 ++ (W_X5_reset 837 ++ (W_X5_reset 826 ++ (W_X5_reset 815 ++ (W_X2_reset 811 ++ (W_X9_reset 808 ++ ([(2, 807, 0, 300, (nI 0))] ++ (W_X0_reset 1))))))))))))))))))))) hst (sh_sub 876 hs (by decide +kernel) (by decide +kernel))) rfl (kq apq (fk hs 72 rfl)) rfl rfl (by decide) (by decide) (Nat.le_of_ble_eq_true rfl) (by decide) ?_
  refine ex_iincx (w := (nI 5)) ok_X11_resetAll (mi 47 rfl) rfl (by decide) ?_
  refine ex_goto (tgt := 76) ok_X11_resetAll (mi 48 rfl) rfl ?_
  refine ex_ls (ls' := [(0, .ref x), (1, .int (nI 5))]) ⟨rfl, rfl, trivial⟩ ?_
  refine ex_iload_n ok_X11_resetAll (mi 39 rfl) rfl ?_
  refine ex_bipush ok_X11_resetAll (mi 40 rfl) ?_
  refine ex_icmp_ge (tgt := 97) ok_X11_resetAll (mi 41 rfl) rfl (fun hn => absurd hn (by decide)) (fun _ => ?_)
  refine ex_aload_n ok_X11_resetAll (mi 42 rfl) rfl ?_
  refine ex_getRx ok_X11_resetAll (mi 43 rfl) rfl rfl (kq apq (fk hs 0 rfl)) (rq apq (fr hs 83 rfl)) (kq apq (fk hs 63 rfl)) (by decide) ?_
  refine ex_iload_n ok_X11_resetAll (mi 44 rfl) rfl ?_
  refine ex_aaldx (n := 3) ok_X11_resetAll (mi 45 rfl) (by decide) (kq apq (fk hs 63 rfl)) (nq apq (fn hs 63 rfl)) (pk_in 5 12 (by decide)) (oq apq (fo ho 17 rfl)) (kq apq (fk hs 74 rfl)) (by decide) ?_
  refine ex_callVr (As := []) (v := none) (g1 := (ap x (W_X10_reset 878 ++ (W_X10_reset 876 ++ (W_X10_reset 874 ++ (W_X10_reset 872 ++ (W_X10_reset 870 ++ (W_X10_reset 868 ++ (W_X3_reset 0 (-1) 865 ++ (W_X3_reset 0 (-1) 863 ++ (W_X3_reset 0 (-1) 861 ++ (W_X3_reset 0 (-1) 859 ++ (W_X3_reset 0 (-1) 857 ++ (W_X3_reset 0 (-1) 855 ++ (W_X3_reset 2 0 853 ++ (W_X3_reset 2 0 851 ++ (W_X3_reset 2 0 849 ++ (W_X5_reset 837 ++ (W_X5_reset 826 ++ (W_X5_reset 815 ++ (W_X2_reset 811 ++ (W_X9_reset 808 ++ ([(2, 807, 0, 300, (nI 0))] ++ (W_X0_reset 1)))))))))))))))))))))) h)) ok_X11_resetAll (mi 46 rfl) rfl (mA_X10_reset (ws := (W_X10_reset 876 ++ (W_X10_reset 874 ++ (W_X10_reset 872 ++ (W_X10_reset 870 ++ (W_X10_reset 868 ++ (W_X3_reset 0 (-1) 865 ++ (W_X3_reset 0 (-1) 863 ++ (W_X3_reset 0 (-1) 861 ++ (W_X3_reset 0 (-1) 859 ++ (W_X3_reset 0 (-1) 857 ++ (W_X3_reset 0 (-1) 855 ++ (W_X3_reset 2 0 853 ++ (W_X3_reset 2 0 851 ++ (W_X3_reset 2 0 849 ++ (W_X5_reset 837 ++ (W_X5_reset 826 ++ (W_X5_reset 815 ++ (W_X2_reset 811 ++ (W_X9_reset 808 ++ ([(2, 807, 0, 300, (nI 0))] ++ (W_X0_reset 1)))))))))))))))))))))) hst (sh_sub 878 hs (by decide +kernel) (by decide +kernel))) rfl (kq apq (fk hs 74 rfl)) rfl rfl (by decide) (by decide) (Nat.le_of_ble_eq_true rfl) (by decide) ?_
  refine ex_iincx (w := (nI 6)) ok_X11_resetAll (mi 47 rfl) rfl (by decide) ?_
  refine ex_goto (tgt := 76) ok_X11_resetAll (mi 48 rfl) rfl ?_
  refine ex_ls (ls' := [(0, .ref x), (1, .int (nI 6))]) ⟨rfl, rfl, trivial⟩ ?_
  refine ex_iload_n ok_X11_resetAll (mi 39 rfl) rfl ?_
  refine ex_bipush ok_X11_resetAll (mi 40 rfl) ?_
  refine ex_icmp_ge (tgt := 97) ok_X11_resetAll (mi 41 rfl) rfl (fun hn => absurd hn (by decide)) (fun _ => ?_)
  refine ex_aload_n ok_X11_resetAll (mi 42 rfl) rfl ?_
  refine ex_getRx ok_X11_resetAll (mi 43 rfl) rfl rfl (kq apq (fk hs 0 rfl)) (rq apq (fr hs 83 rfl)) (kq apq (fk hs 63 rfl)) (by decide) ?_
  refine ex_iload_n ok_X11_resetAll (mi 44 rfl) rfl ?_
  refine ex_aaldx (n := 3) ok_X11_resetAll (mi 45 rfl) (by decide) (kq apq (fk hs 63 rfl)) (nq apq (fn hs 63 rfl)) (pk_in 6 12 (by decide)) (oq apq (fo ho 18 rfl)) (kq apq (fk hs 76 rfl)) (by decide) ?_
  refine ex_callVr (As := []) (v := none) (g1 := (ap x (W_X10_reset 880 ++ (W_X10_reset 878 ++ (W_X10_reset 876 ++ (W_X10_reset 874 ++ (W_X10_reset 872 ++ (W_X10_reset 870 ++ (W_X10_reset 868 ++ (W_X3_reset 0 (-1) 865 ++ (W_X3_reset 0 (-1) 863 ++ (W_X3_reset 0 (-1) 861 ++ (W_X3_reset 0 (-1) 859 ++ (W_X3_reset 0 (-1) 857 ++ (W_X3_reset 0 (-1) 855 ++ (W_X3_reset 2 0 853 ++ (W_X3_reset 2 0 851 ++ (W_X3_reset 2 0 849 ++ (W_X5_reset 837 ++ (W_X5_reset 826 ++ (W_X5_reset 815 ++ (W_X2_reset 811 ++ (W_X9_reset 808 ++ ([(2, 807, 0, 300, (nI 0))] ++ (W_X0_reset 1))))))))))))))))))))))) h)) ok_X11_resetAll (mi 46 rfl) rfl (mA_X10_reset (ws := (W_X10_reset 878 ++ (W_X10_reset 876 ++ (W_X10_reset 874 ++ (W_X10_reset 872 ++ (W_X10_reset 870 ++ (W_X10_reset 868 ++ (W_X3_reset 0 (-1) 865 ++ (W_X3_reset 0 (-1) 863 ++ (W_X3_reset 0 (-1) 861 ++ (W_X3_reset 0 (-1) 859 ++ (W_X3_reset 0 (-1) 857 ++ (W_X3_reset 0 (-1) 855 ++ (W_X3_reset 2 0 853 ++ (W_X3_reset 2 0 851 ++ (W_X3_reset 2 0 849 ++ (W_X5_reset 837 ++ (W_X5_reset 826 ++ (W_X5_reset 815 ++ (W_X2_reset 811 ++ (W_X9_reset 808 ++ ([(2, 807, 0, 300, (nI 0))] ++ (W_X0_reset 1))))))))))))))))))))))) hst (sh_sub 880 hs (by decide +kernel) (by decide +kernel))) rfl (kq apq (fk hs 76 rfl)) rfl rfl (by decide) (by decide) (Nat.le_of_ble_eq_true rfl) (by decide) ?_
  refine ex_iincx (w := (nI 7)) ok_X11_resetAll (mi 47 rfl) rfl (by decide) ?_
  refine ex_goto (tgt := 76) ok_X11_resetAll (mi 48 rfl) rfl ?_
  refine ex_ls (ls' := [(0, .ref x), (1, .int (nI 7))]) ⟨rfl, rfl, trivial⟩ ?_
  refine ex_iload_n ok_X11_resetAll (mi 39 rfl) rfl ?_
  refine ex_bipush ok_X11_resetAll (mi 40 rfl) ?_
  refine ex_icmp_ge (tgt := 97) ok_X11_resetAll (mi 41 rfl) rfl (fun hn => absurd hn (by decide)) (fun _ => ?_)
  refine ex_aload_n ok_X11_resetAll (mi 42 rfl) rfl ?_
  refine ex_getRx ok_X11_resetAll (mi 43 rfl) rfl rfl (kq apq (fk hs 0 rfl)) (rq apq (fr hs 83 rfl)) (kq apq (fk hs 63 rfl)) (by decide) ?_
  refine ex_iload_n ok_X11_resetAll (mi 44 rfl) rfl ?_
  refine ex_aaldx (n := 3) ok_X11_resetAll (mi 45 rfl) (by decide) (kq apq (fk hs 63 rfl)) (nq apq (fn hs 63 rfl)) (pk_in 7 12 (by decide)) (oq apq (fo ho 19 rfl)) (kq apq (fk hs 78 rfl)) (by decide) ?_
  refine ex_callVr (As := []) (v := none) (g1 := (ap x (W_X10_reset 882 ++ (W_X10_reset 880 ++ (W_X10_reset 878 ++ (W_X10_reset 876 ++ (W_X10_reset 874 ++ (W_X10_reset 872 ++ (W_X10_reset 870 ++ (W_X10_reset 868 ++ (W_X3_reset 0 (-1) 865 ++ (W_X3_reset 0 (-1) 863 ++ (W_X3_reset 0 (-1) 861 ++ (W_X3_reset 0 (-1) 859 ++ (W_X3_reset 0 (-1) 857 ++ (W_X3_reset 0 (-1) 855 ++ (W_X3_reset 2 0 853 ++ (W_X3_reset 2 0 851 ++ (W_X3_reset 2 0 849 ++ (W_X5_reset 837 ++ (W_X5_reset 826 ++ (W_X5_reset 815 ++ (W_X2_reset 811 ++ (W_X9_reset 808 ++ ([(2, 807, 0, 300, (nI 0))] ++ (W_X0_reset 1)))))))))))))))))))))))) h)) ok_X11_resetAll (mi 46 rfl) rfl (mA_X10_reset (ws := (W_X10_reset 880 ++ (W_X10_reset 878 ++ (W_X10_reset 876 ++ (W_X10_reset 874 ++ (W_X10_reset 872 ++ (W_X10_reset 870 ++ (W_X10_reset 868 ++ (W_X3_reset 0 (-1) 865 ++ (W_X3_reset 0 (-1) 863 ++ (W_X3_reset 0 (-1) 861 ++ (W_X3_reset 0 (-1) 859 ++ (W_X3_reset 0 (-1) 857 ++ (W_X3_reset 0 (-1) 855 ++ (W_X3_reset 2 0 853 ++ (W_X3_reset 2 0 851 ++ (W_X3_reset 2 0 849 ++ (W_X5_reset 837 ++ (W_X5_reset 826 ++ (W_X5_reset 815 ++ (W_X2_reset 811 ++ (W_X9_reset 808 ++ ([(2, 807, 0, 300, (nI 0))] ++ (W_X0_reset 1)))))))))))))))))))))))) hst (sh_sub 882 hs (by decide +kernel) (by decide +kernel))) rfl (kq apq (fk hs 78 rfl)) rfl rfl (by decide) (by decide) (Nat.le_of_ble_eq_true rfl) (by decide) ?_
  refine ex_iincx (w := (nI 8)) ok_X11_resetAll (mi 47 rfl) rfl (by decide) ?_
  refine ex_goto (tgt := 76) ok_X11_resetAll (mi 48 rfl) rfl ?_
  refine ex_ls (ls' := [(0, .ref x), (1, .int (nI 8))]) ⟨rfl, rfl, trivial⟩ ?_
  refine ex_iload_n ok_X11_resetAll (mi 39 rfl) rfl ?_
  refine ex_bipush ok_X11_resetAll (mi 40 rfl) ?_
  refine ex_icmp_ge (tgt := 97) ok_X11_resetAll (mi 41 rfl) rfl (fun hn => absurd hn (by decide)) (fun _ => ?_)
  refine ex_aload_n ok_X11_resetAll (mi 42 rfl) rfl ?_
  refine ex_getRx ok_X11_resetAll (mi 43 rfl) rfl rfl (kq apq (fk hs 0 rfl)) (rq apq (fr hs 83 rfl)) (kq apq (fk hs 63 rfl)) (by decide) ?_
  refine ex_iload_n ok_X11_resetAll (mi 44 rfl) rfl ?_
  refine ex_aaldx (n := 3) ok_X11_resetAll (mi 45 rfl) (by decide) (kq apq (fk hs 63 rfl)) (nq apq (fn hs 63 rfl)) (pk_in 8 12 (by decide)) (oq apq (fo ho 20 rfl)) (kq apq (fk hs 80 rfl)) (by decide) ?_
  refine ex_callVr (As := []) (v := none) (g1 := (ap x (W_X10_reset 884 ++ (W_X10_reset 882 ++ (W_X10_reset 880 ++ (W_X10_reset 878 ++ (W_X10_reset 876 ++ (W_X10_reset 874 ++ (W_X10_reset 872 ++ (W_X10_reset 870 ++ (W_X10_reset 868 ++ (W_X3_reset 0 (-1) 865 ++ (W_X3_reset 0 (-1) 863 ++ (W_X3_reset 0 (-1) 861 ++ (W_X3_reset 0 (-1) 859 ++ (W_X3_reset 0 (-1) 857 ++ (W_X3_reset 0 (-1) 855 ++ (W_X3_reset 2 0 853 ++ (W_X3_reset 2 0 851 ++ (W_X3_reset 2 0 849 ++ (W_X5_reset 837 ++ (W_X5_reset 826 ++ (W_X5_reset 815 ++ (W_X2_reset 811 ++ (W_X9_reset 808 ++ ([(2, 807, 0, 300, (nI 0))] ++ (W_X0_reset 1))))))))))))))))))))))))) h)) ok_X11_resetAll (mi 46 rfl) rfl (mA_X10_reset (ws := (W_X10_reset 882 ++ (W_X10_reset 880 ++ (W_X10_reset 878 ++ (W_X10_reset 876 ++ (W_X10_reset 874 ++ (W_X10_reset 872 ++ (W_X10_reset 870 ++ (W_X10_reset 868 ++ (W_X3_reset 0 (-1) 865 ++ (W_X3_reset 0 (-1) 863 ++ (W_X3_reset 0 (-1) 861 ++ (W_X3_reset 0 (-1) 859 ++ (W_X3_reset 0 (-1) 857 ++ (W_X3_reset 0 (-1) 855 ++ (W_X3_reset 2 0 853 ++ (W_X3_reset 2 0 851 ++ (W_X3_reset 2 0 849 ++ (W_X5_reset 837 ++ (W_X5_reset 826 ++ (W_X5_reset 815 ++ (W_X2_reset 811 ++ (W_X9_reset 808 ++ ([(2, 807, 0, 300, (nI 0))] ++ (W_X0_reset 1))))))))))))))))))))))))) hst (sh_sub 884 hs (by decide +kernel) (by decide +kernel))) rfl (kq apq (fk hs 80 rfl)) rfl rfl (by decide) (by decide) (Nat.le_of_ble_eq_true rfl) (by decide) ?_
  refine ex_iincx (w := (nI 9)) ok_X11_resetAll (mi 47 rfl) rfl (by decide) ?_
  refine ex_goto (tgt := 76) ok_X11_resetAll (mi 48 rfl) rfl ?_
  refine ex_ls (ls' := [(0, .ref x), (1, .int (nI 9))]) ⟨rfl, rfl, trivial⟩ ?_
  refine ex_iload_n ok_X11_resetAll (mi 39 rfl) rfl ?_
  refine ex_bipush ok_X11_resetAll (mi 40 rfl) ?_
  refine ex_icmp_ge (tgt := 97) ok_X11_resetAll (mi 41 rfl) rfl (fun hn => absurd hn (by decide)) (fun _ => ?_)
  refine ex_aload_n ok_X11_resetAll (mi 42 rfl) rfl ?_
  refine ex_getRx ok_X11_resetAll (mi 43 rfl) rfl rfl (kq apq (fk hs 0 rfl)) (rq apq (fr hs 83 rfl)) (kq apq (fk hs 63 rfl)) (by decide) ?_
  refine ex_iload_n ok_X11_resetAll (mi 44 rfl) rfl ?_
  refine ex_aaldx (n := 3) ok_X11_resetAll (mi 45 rfl) (by decide) (kq apq (fk hs 63 rfl)) (nq apq (fn hs 63 rfl)) (pk_in 9 12 (by decide)) (oq apq (fo ho 21 rfl)) (kq apq (fk hs 82 rfl)) (by decide) ?_
  refine ex_callVr (As := []) (v := none) (g1 := (ap x (W_X10_reset 886 ++ (W_X10_reset 884 ++ (W_X10_reset 882 ++ (W_X10_reset 880 ++ (W_X10_reset 878 ++ (W_X10_reset 876 ++ (W_X10_reset 874 ++ (W_X10_reset 872 ++ (W_X10_reset 870 ++ (W_X10_reset 868 ++ (W_X3_reset 0 (-1) 865 ++ (W_X3_reset 0 (-1) 863 ++ (W_X3_reset 0 (-1) 861 ++ (W_X3_reset 0 (-1) 859 ++ (W_X3_reset 0 (-1) 857 ++ (W_X3_reset 0 (-1) 855 ++ (W_X3_reset 2 0 853 ++ (W_X3_reset 2 0 851 ++ (W_X3_reset 2 0 849 ++ (W_X5_reset 837 ++ (W_X5_reset 826 ++ (W_X5_reset 815 ++ (W_X2_reset 811 ++ (W_X9_reset 808 ++ ([(2, 807, 0, 300, (nI 0))] ++ (W_X0_reset 1)))))))))))))))))))))))))) h)) ok_X11_resetAll (mi 46 rfl) rfl (mA_X10_reset (ws := (W_X10_reset 884 ++ (W_X10_reset 882 ++ (W_X10_reset 880 ++ (W_X10_reset 878 ++ (W_X10_reset 876 ++ (W_X10_reset 874 ++ (W_X10_reset 872 ++ (W_X10_reset 870 ++ (W_X10_reset 868 ++ (W_X3_reset 0 (-1) 865 ++ (W_X3_reset 0 (-1) 863 ++ (W_X3_reset 0 (-1) 861 ++ (W_X3_reset 0 (-1) 859 ++ (W_X3_reset 0 (-1) 857 ++ (W_X3_reset 0 (-1) 855 ++ (W_X3_reset 2 0 853 ++ (W_X3_reset 2 0 851 ++ (W_X3_reset 2 0 849 ++ (W_X5_reset 837 ++ (W_X5_reset 826 ++ (W_X5_reset 815 ++ (W_X2_reset 811 ++ (W_X9_reset 808 ++ ([(2, 807, 0, 300, (nI 0))] ++ (W_X0_reset 1)))))))))))))))))))))))))) hst (sh_sub 886 hs (by decide +kernel) (by decide +kernel))) rfl (kq apq (fk hs 82 rfl)) rfl rfl (by decide) (by decide) (Nat.le_of_ble_eq_true rfl) (by decide) ?_
  refine ex_iincx (w := (nI 10)) ok_X11_resetAll (mi 47 rfl) rfl (by decide) ?_
  refine ex_goto (tgt := 76) ok_X11_resetAll (mi 48 rfl) rfl ?_
  refine ex_ls (ls' := [(0, .ref x), (1, .int (nI 10))]) ⟨rfl, rfl, trivial⟩ ?_
  refine ex_iload_n ok_X11_resetAll (mi 39 rfl) rfl ?_
  refine ex_bipush ok_X11_resetAll (mi 40 rfl) ?_
  refine ex_icmp_ge (tgt := 97) ok_X11_resetAll (mi 41 rfl) rfl (fun hn => absurd hn (by decide)) (fun _ => ?_)
  refine ex_aload_n ok_X11_resetAll (mi 42 rfl) rfl ?_
  refine ex_getRx ok_X11_resetAll (mi 43 rfl) rfl rfl (kq apq (fk hs 0 rfl)) (rq apq (fr hs 83 rfl)) (kq apq (fk hs 63 rfl)) (by decide) ?_
  refine ex_iload_n ok_X11_resetAll (mi 44 rfl) rfl ?_
  refine ex_aaldx (n := 3) ok_X11_resetAll (mi 45 rfl) (by decide) (kq apq (fk hs 63 rfl)) (nq apq (fn hs 63 rfl)) (pk_in 10 12 (by decide)) (oq apq (fo ho 22 rfl)) (kq apq (fk hs 84 rfl)) (by decide) ?_
  refine ex_callVr (As := []) (v := none) (g1 := (ap x (W_X10_reset 888 ++ (W_X10_reset 886 ++ (W_X10_reset 884 ++ (W_X10_reset 882 ++ (W_X10_reset 880 ++ (W_X10_reset 878 ++ (W_X10_reset 876 ++ (W_X10_reset 874 ++ (W_X10_reset 872 ++ (W_X10_reset 870 ++ (W_X10_reset 868 ++ (W_X3_reset 0 (-1) 865 ++ (W_X3_reset 0 (-1) 863 ++ (W_X3_reset 0 (-1) 861 ++ (W_X3_reset 0 (-1) 859 ++ (W_X3_reset 0 (-1) 857 ++ (W_X3_reset 0 (-1) 855 ++ (W_X3_reset 2 0 853 ++ (W_X3_reset 2 0 851 ++ (W_X3_reset 2 0 849 ++ (W_X5_reset 837 ++ (W_X5_reset 826 ++ (W_X5_reset 815 ++ (W_X2_reset 811 ++ (W_X9_reset 808 ++ ([(2, 807, 0, 300, (nI 0))] ++ (W_X0_reset 1))))))))))))))))))))))))))) h)) ok_X11_resetAll (mi 46 rfl) rfl (mA_X10_reset (ws := (W_X10_reset 886 ++ (W_X10_reset 884 ++ (W_X10_reset 882 ++ (W_X10_reset 880 ++ (W_X10_reset 878 ++ (W_X10_reset 876 ++ (W_X10_reset 874 ++ (W_X10_reset 872 ++ (W_X10_reset 870 ++ (W_X10_reset 868 ++ (W_X3_reset 0 (-1) 865 ++ (W_X3_reset 0 (-1) 863 ++ (W_X3_reset 0 (-1) 861 ++ (W_X3_reset 0 (-1) 859 ++ (W_X3_reset 0 (-1) 857 ++ (W_X3_reset 0 (-1) 855 ++ (W_X3_reset 2 0 853 ++ (W_X3_reset 2 0 851 ++ (W_X3_reset 2 0 849 ++ (W_X5_reset 837 ++ (W_X5_reset 826 ++ (W_X5_reset 815 ++ (W_X2_reset 811 ++ (W_X9_reset 808 ++ ([(2, 807, 0, 300, (nI 0))] ++ (W_X0_reset 1))))))))))))))))))))))))))) hst (sh_sub 888 hs (by decide +kernel) (by decide +kernel))) rfl (kq apq (fk hs 84 rfl)) rfl rfl (by decide) (by decide) (Nat.le_of_ble_eq_true rfl) (by decide) ?_
  refine ex_iincx (w := (nI 11)) ok_X11_resetAll (mi 47 rfl) rfl (by decide) ?_
  refine ex_goto (tgt := 76) ok_X11_resetAll (mi 48 rfl) rfl ?_
  refine ex_ls (ls' := [(0, .ref x), (1, .int (nI 11))]) ⟨rfl, rfl, trivial⟩ ?_
  refine ex_iload_n ok_X11_resetAll (mi 39 rfl) rfl ?_
  refine ex_bipush ok_X11_resetAll (mi 40 rfl) ?_
  refine ex_icmp_ge (tgt := 97) ok_X11_resetAll (mi 41 rfl) rfl (fun hn => absurd hn (by decide)) (fun _ => ?_)
  refine ex_aload_n ok_X11_resetAll (mi 42 rfl) rfl ?_
  refine ex_getRx ok_X11_resetAll (mi 43 rfl) rfl rfl (kq apq (fk hs 0 rfl)) (rq apq (fr hs 83 rfl)) (kq apq (fk hs 63 rfl)) (by decide) ?_
  refine ex_iload_n ok_X11_resetAll (mi 44 rfl) rfl ?_
  refine ex_aaldx (n := 3) ok_X11_resetAll (mi 45 rfl) (by decide) (kq apq (fk hs 63 rfl)) (nq apq (fn hs 63 rfl)) (pk_in 11 12 (by decide)) (oq apq (fo ho 23 rfl)) (kq apq (fk hs 86 rfl)) (by decide) ?_
  refine ex_callVr (As := []) (v := none) (g1 := (ap x (W_X10_reset 890 ++ (W_X10_reset 888 ++ (W_X10_reset 886 ++ (W_X10_reset 884 ++ (W_X10_reset 882 ++ (W_X10_reset 880 ++ (W_X10_reset 878 ++ (W_X10_reset 876 ++ (W_X10_reset 874 ++ (W_X10_reset 872 ++ (W_X10_reset 870 ++ (W_X10_reset 868 ++ (W_X3_reset 0 (-1) 865 ++ (W_X3_reset 0 (-1) 863 ++ (W_X3_reset 0 (-1) 861 ++ (W_X3_reset 0 (-1) 859 ++ (W_X3_reset 0 (-1) 857 ++ (W_X3_reset 0 (-1) 855 ++ (W_X3_reset 2 0 853 ++ (W_X3_reset 2 0 851 ++ (W_X3_reset 2 0 849 ++ (W_X5_reset 837 ++ (W_X5_reset 826 ++ (W_X5_reset 815 ++ (W_X2_reset 811 ++ (W_X9_reset 808 ++ ([(2, 807, 0, 300, (nI 0))] ++ (W_X0_reset 1)))))))))))))))))))))))))))) h)) ok_X11_resetAll (mi 46 rfl) rfl (mA_X10_reset (ws := (W_X10_reset 888 ++ (W_X10_reset 886 ++ (W_X10_reset 884 ++ (W_X10_reset 882 ++ (W_X10_reset 880 ++ (W_X10_reset 878 ++ (W_X10_reset 876 ++ (W_X10_reset 874 ++ (W_X10_reset 872 ++ (W_X10_reset 870 ++ (W_X10_reset 868 ++ (W_X3_reset 0 (-1) 865 ++ (W_X3_reset 0 (-1) 863 ++ (W_X3_reset 0 (-1) 861 ++ (W_X3_reset 0 (-1) 859 ++ (W_X3_reset 0 (-1) 857 ++ (W_X3_reset 0 (-1) 855 ++ (W_X3_reset 2 0 853 ++ (W_X3_reset 2 0 851 ++ (W_X3_reset 2 0 849 ++ (W_X5_reset 837 ++ (W_X5_reset 826 ++ (W_X5_reset 815 ++ (W_X2_reset 811 ++ (W_X9_reset 808 ++ ([(2, 807, 0, 300, (nI 0))] ++ (W_X0_reset 1)))))))))))))))))))))))))))) hst (sh_sub 890 hs (by decide +kernel) (by decide +kernel))) rfl (kq apq (fk hs 86 rfl)) rfl rfl (by decide) (by decide) (Nat.le_of_ble_eq_true rfl) (by decide) ?_
  refine ex_iincx (w := (nI 12)) ok_X11_resetAll (mi 47 rfl) rfl (by decide) ?_
  refine ex_goto (tgt := 76) ok_X11_resetAll (mi 48 rfl) rfl ?_
  refine ex_ls (ls' := [(0, .ref x), (1, .int (nI 12))]) ⟨rfl, rfl, trivial⟩ ?_
  refine ex_iload_n ok_X11_resetAll (mi 39 rfl) rfl ?_
  refine ex_bipush ok_X11_resetAll (mi 40 rfl) ?_
  refine ex_icmp_ge (tgt := 97) ok_X11_resetAll (mi 41 rfl) rfl (fun _ => ?_) (fun hn => absurd (by decide) hn)
  refine ex_iconst ok_X11_resetAll (mi 49 rfl) ?_
  refine ex_istore_n ok_X11_resetAll (mi 50 rfl) ?_
  refine ex_iload_n ok_X11_resetAll (mi 51 rfl) rfl ?_
  refine ex_iconst ok_X11_resetAll (mi 52 rfl) ?_
  refine ex_icmp_ge (tgt := 124) ok_X11_resetAll (mi 53 rfl) rfl (fun hn => absurd hn (by decide)) (fun _ => ?_)
  refine ex_aload_n ok_X11_resetAll (mi 54 rfl) rfl ?_
  refine ex_getRx ok_X11_resetAll (mi 55 rfl) rfl rfl (kq apq (fk hs 0 rfl)) (rq apq (fr hs 11 rfl)) (kq apq (fk hs 9 rfl)) (by decide) ?_
  refine ex_iload_n ok_X11_resetAll (mi 56 rfl) rfl ?_
  refine ex_iconst ok_X11_resetAll (mi 57 rfl) ?_
  refine ex_iload_n ok_X11_resetAll (mi 58 rfl) rfl ?_
  refine ex_callSr (As := [_]) (v := some (.int (nI 3))) (g1 := (ap x (W_X10_reset 890 ++ (W_X10_reset 888 ++ (W_X10_reset 886 ++ (W_X10_reset 884 ++ (W_X10_reset 882 ++ (W_X10_reset 880 ++ (W_X10_reset 878 ++ (W_X10_reset 876 ++ (W_X10_reset 874 ++ (W_X10_reset 872 ++ (W_X10_reset 870 ++ (W_X10_reset 868 ++ (W_X3_reset 0 (-1) 865 ++ (W_X3_reset 0 (-1) 863 ++ (W_X3_reset 0 (-1) 861 ++ (W_X3_reset 0 (-1) 859 ++ (W_X3_reset 0 (-1) 857 ++ (W_X3_reset 0 (-1) 855 ++ (W_X3_reset 2 0 853 ++ (W_X3_reset 2 0 851 ++ (W_X3_reset 2 0 849 ++ (W_X5_reset 837 ++ (W_X5_reset 826 ++ (W_X5_reset 815 ++ (W_X2_reset 811 ++ (W_X9_reset 808 ++ ([(2, 807, 0, 300, (nI 0))] ++ (W_X0_reset 1)))))))))))))))))))))))))))) h)) ok_X11_resetAll (mi 59 rfl) rfl ?c rfl rfl rfl (by decide) (Nat.le_of_ble_eq_true rfl) (by decide) ?_
  case c =>
    refine ex_M_of ok_X11_nodesOf cw_X11_nodesOf rfl hst (Nat.le_of_ble_eq_true rfl) ?_
    refine ex_iload_n ok_X11_nodesOf (mi 0 rfl) rfl ?_
    refine ex_tblk (tgt := 32) ok_X11_nodesOf (mi 1 rfl) (by decide) (by decide) (by decide) (by decide) ?_
    refine ex_iconst ok_X11_nodesOf (mi 2 rfl) ?_
    refine ex_iret ok_X11_nodesOf (mi 3 rfl) rfl ?_
    exact ⟨inlI (by decide), rfl⟩
  refine ex_ishl ok_X11_resetAll (mi 60 rfl) ?_
  refine ex_top (w := (nI 8)) (by decide) ?_
  refine ex_iconst ok_X11_resetAll (mi 61 rfl) ?_
  refine ex_isub ok_X11_resetAll (mi 62 rfl) ?_
  refine ex_top (w := (nI 7)) (by decide) ?_
  refine ex_iasta (a := 813) (j := 0) (v := (nI 7)) ok_X11_resetAll (mi 63 rfl) (fk hs 9 rfl) (fn hs 9 rfl) (pk_in 0 4 (by decide)) (by decide) (by decide) ?_
  refine ex_iincx (w := (nI 1)) ok_X11_resetAll (mi 64 rfl) rfl (by decide) ?_
  refine ex_goto (tgt := 99) ok_X11_resetAll (mi 65 rfl) rfl ?_
  refine ex_ls (ls' := [(0, .ref x), (1, .int (nI 1))]) ⟨rfl, rfl, trivial⟩ ?_
  refine ex_iload_n ok_X11_resetAll (mi 51 rfl) rfl ?_
  refine ex_iconst ok_X11_resetAll (mi 52 rfl) ?_
  refine ex_icmp_ge (tgt := 124) ok_X11_resetAll (mi 53 rfl) rfl (fun hn => absurd hn (by decide)) (fun _ => ?_)
  refine ex_aload_n ok_X11_resetAll (mi 54 rfl) rfl ?_
  refine ex_getRx ok_X11_resetAll (mi 55 rfl) rfl rfl (kq apq (fk hs 0 rfl)) (rq apq (fr hs 11 rfl)) (kq apq (fk hs 9 rfl)) (by decide) ?_
  refine ex_iload_n ok_X11_resetAll (mi 56 rfl) rfl ?_
  refine ex_iconst ok_X11_resetAll (mi 57 rfl) ?_
  refine ex_iload_n ok_X11_resetAll (mi 58 rfl) rfl ?_
  refine ex_callSr (As := [_]) (v := some (.int (nI 9))) (g1 := (ap x ([(1, 813, 0, 0, (nI 7))] ++ (W_X10_reset 890 ++ (W_X10_reset 888 ++ (W_X10_reset 886 ++ (W_X10_reset 884 ++ (W_X10_reset 882 ++ (W_X10_reset 880 ++ (W_X10_reset 878 ++ (W_X10_reset 876 ++ (W_X10_reset 874 ++ (W_X10_reset 872 ++ (W_X10_reset 870 ++ (W_X10_reset 868 ++ (W_X3_reset 0 (-1) 865 ++ (W_X3_reset 0 (-1) 863 ++ (W_X3_reset 0 (-1) 861 ++ (W_X3_reset 0 (-1) 859 ++ (W_X3_reset 0 (-1) 857 ++ (W_X3_reset 0 (-1) 855 ++ (W_X3_reset 2 0 853 ++ (W_X3_reset 2 0 851 ++ (W_X3_reset 2 0 849 ++ (W_X5_reset 837 ++ (W_X5_reset 826 ++ (W_X5_reset 815 ++ (W_X2_reset 811 ++ (W_X9_reset 808 ++ ([(2, 807, 0, 300, (nI 0))] ++ (W_X0_reset 1))))))))))))))))))))))))))))) h)) ok_X11_resetAll (mi 59 rfl) rfl ?c rfl rfl rfl (by decide) (Nat.le_of_ble_eq_true rfl) (by decide) ?_
  case c =>
    refine ex_M_of ok_X11_nodesOf cw_X11_nodesOf rfl hst (Nat.le_of_ble_eq_true rfl) ?_
    refine ex_iload_n ok_X11_nodesOf (mi 0 rfl) rfl ?_
    refine ex_tblk (tgt := 34) ok_X11_nodesOf (mi 1 rfl) (by decide) (by decide) (by decide) (by decide) ?_
    refine ex_bipush ok_X11_nodesOf (mi 4 rfl) ?_
    refine ex_iret ok_X11_nodesOf (mi 5 rfl) rfl ?_
    exact ⟨inlI (by decide), rfl⟩
  refine ex_ishl ok_X11_resetAll (mi 60 rfl) ?_
  refine ex_top (w := (nI 512)) (by decide) ?_
  refine ex_iconst ok_X11_resetAll (mi 61 rfl) ?_
  refine ex_isub ok_X11_resetAll (mi 62 rfl) ?_
  refine ex_top (w := (nI 511)) (by decide) ?_
  refine ex_iasta (a := 813) (j := 1) (v := (nI 511)) ok_X11_resetAll (mi 63 rfl) (fk hs 9 rfl) (fn hs 9 rfl) (pk_in 1 4 (by decide)) (by decide) (by decide) ?_
  refine ex_iincx (w := (nI 2)) ok_X11_resetAll (mi 64 rfl) rfl (by decide) ?_
  refine ex_goto (tgt := 99) ok_X11_resetAll (mi 65 rfl) rfl ?_
  refine ex_ls (ls' := [(0, .ref x), (1, .int (nI 2))]) ⟨rfl, rfl, trivial⟩ ?_
  refine ex_iload_n ok_X11_resetAll (mi 51 rfl) rfl ?_
  refine ex_iconst ok_X11_resetAll (mi 52 rfl) ?_
  refine ex_icmp_ge (tgt := 124) ok_X11_resetAll (mi 53 rfl) rfl (fun hn => absurd hn (by decide)) (fun _ => ?_)
  refine ex_aload_n ok_X11_resetAll (mi 54 rfl) rfl ?_
  refine ex_getRx ok_X11_resetAll (mi 55 rfl) rfl rfl (kq apq (fk hs 0 rfl)) (rq apq (fr hs 11 rfl)) (kq apq (fk hs 9 rfl)) (by decide) ?_
  refine ex_iload_n ok_X11_resetAll (mi 56 rfl) rfl ?_
  refine ex_iconst ok_X11_resetAll (mi 57 rfl) ?_
  refine ex_iload_n ok_X11_resetAll (mi 58 rfl) rfl ?_
  refine ex_callSr (As := [_]) (v := some (.int (nI 12))) (g1 := (ap x ([(1, 813, 1, 0, (nI 511))] ++ ([(1, 813, 0, 0, (nI 7))] ++ (W_X10_reset 890 ++ (W_X10_reset 888 ++ (W_X10_reset 886 ++ (W_X10_reset 884 ++ (W_X10_reset 882 ++ (W_X10_reset 880 ++ (W_X10_reset 878 ++ (W_X10_reset 876 ++ (W_X10_reset 874 ++ (W_X10_reset 872 ++ (W_X10_reset 870 ++ (W_X10_reset 868 ++ (W_X3_reset 0 (-1) 865 ++ (W_X3_reset 0 (-1) 863 ++ (W_X3_reset 0 (-1) 861 ++ (W_X3_reset 0 (-1) 859 ++ (W_X3_reset 0 (-1) 857 ++ (W_X3_reset 0 (-1) 855 ++ (W_X3_reset 2 0 853 ++ (W_X3_reset 2 0 851 ++ (W_X3_reset 2 0 849 ++ (W_X5_reset 837 ++ (W_X5_reset 826 ++ (W_X5_reset 815 ++ (W_X2_reset 811 ++ (W_X9_reset 808 ++ ([(2, 807, 0, 300, (nI 0))] ++ (W_X0_reset 1)))))))))))))))))))))))))))))) h)) ok_X11_resetAll (mi 59 rfl) rfl ?c rfl rfl rfl (by decide) (Nat.le_of_ble_eq_true rfl) (by decide) ?_
  case c =>
    refine ex_M_of ok_X11_nodesOf cw_X11_nodesOf rfl hst (Nat.le_of_ble_eq_true rfl) ?_
    refine ex_iload_n ok_X11_nodesOf (mi 0 rfl) rfl ?_
    refine ex_tblk (tgt := 37) ok_X11_nodesOf (mi 1 rfl) (by decide) (by decide) (by decide) (by decide) ?_
    refine ex_bipush ok_X11_nodesOf (mi 6 rfl) ?_
    refine ex_iret ok_X11_nodesOf (mi 7 rfl) rfl ?_
    exact ⟨inlI (by decide), rfl⟩
  refine ex_ishl ok_X11_resetAll (mi 60 rfl) ?_
  refine ex_top (w := (nI 4096)) (by decide) ?_
  refine ex_iconst ok_X11_resetAll (mi 61 rfl) ?_
  refine ex_isub ok_X11_resetAll (mi 62 rfl) ?_
  refine ex_top (w := (nI 4095)) (by decide) ?_
  refine ex_iasta (a := 813) (j := 2) (v := (nI 4095)) ok_X11_resetAll (mi 63 rfl) (fk hs 9 rfl) (fn hs 9 rfl) (pk_in 2 4 (by decide)) (by decide) (by decide) ?_
  refine ex_iincx (w := (nI 3)) ok_X11_resetAll (mi 64 rfl) rfl (by decide) ?_
  refine ex_goto (tgt := 99) ok_X11_resetAll (mi 65 rfl) rfl ?_
  refine ex_ls (ls' := [(0, .ref x), (1, .int (nI 3))]) ⟨rfl, rfl, trivial⟩ ?_
  refine ex_iload_n ok_X11_resetAll (mi 51 rfl) rfl ?_
  refine ex_iconst ok_X11_resetAll (mi 52 rfl) ?_
  refine ex_icmp_ge (tgt := 124) ok_X11_resetAll (mi 53 rfl) rfl (fun hn => absurd hn (by decide)) (fun _ => ?_)
  refine ex_aload_n ok_X11_resetAll (mi 54 rfl) rfl ?_
  refine ex_getRx ok_X11_resetAll (mi 55 rfl) rfl rfl (kq apq (fk hs 0 rfl)) (rq apq (fr hs 11 rfl)) (kq apq (fk hs 9 rfl)) (by decide) ?_
  refine ex_iload_n ok_X11_resetAll (mi 56 rfl) rfl ?_
  refine ex_iconst ok_X11_resetAll (mi 57 rfl) ?_
  refine ex_iload_n ok_X11_resetAll (mi 58 rfl) rfl ?_
  refine ex_callSr (As := [_]) (v := some (.int (nI 3))) (g1 := (ap x ([(1, 813, 2, 0, (nI 4095))] ++ ([(1, 813, 1, 0, (nI 511))] ++ ([(1, 813, 0, 0, (nI 7))] ++ (W_X10_reset 890 ++ (W_X10_reset 888 ++ (W_X10_reset 886 ++ (W_X10_reset 884 ++ (W_X10_reset 882 ++ (W_X10_reset 880 ++ (W_X10_reset 878 ++ (W_X10_reset 876 ++ (W_X10_reset 874 ++ (W_X10_reset 872 ++ (W_X10_reset 870 ++ (W_X10_reset 868 ++ (W_X3_reset 0 (-1) 865 ++ (W_X3_reset 0 (-1) 863 ++ (W_X3_reset 0 (-1) 861 ++ (W_X3_reset 0 (-1) 859 ++ (W_X3_reset 0 (-1) 857 ++ (W_X3_reset 0 (-1) 855 ++ (W_X3_reset 2 0 853 ++ (W_X3_reset 2 0 851 ++ (W_X3_reset 2 0 849 ++ (W_X5_reset 837 ++ (W_X5_reset 826 ++ (W_X5_reset 815 ++ (W_X2_reset 811 ++ (W_X9_reset 808 ++ ([(2, 807, 0, 300, (nI 0))] ++ (W_X0_reset 1))))))))))))))))))))))))))))))) h)) ok_X11_resetAll (mi 59 rfl) rfl ?c rfl rfl rfl (by decide) (Nat.le_of_ble_eq_true rfl) (by decide) ?_
  case c =>
    refine ex_M_of ok_X11_nodesOf cw_X11_nodesOf rfl hst (Nat.le_of_ble_eq_true rfl) ?_
    refine ex_iload_n ok_X11_nodesOf (mi 0 rfl) rfl ?_
    refine ex_tblk (tgt := 40) ok_X11_nodesOf (mi 1 rfl) (by decide) (by decide) (by decide) (by decide) ?_
    refine ex_iconst ok_X11_nodesOf (mi 8 rfl) ?_
    refine ex_iret ok_X11_nodesOf (mi 9 rfl) rfl ?_
    exact ⟨inlI (by decide), rfl⟩
  refine ex_ishl ok_X11_resetAll (mi 60 rfl) ?_
  refine ex_top (w := (nI 8)) (by decide) ?_
  refine ex_iconst ok_X11_resetAll (mi 61 rfl) ?_
  refine ex_isub ok_X11_resetAll (mi 62 rfl) ?_
  refine ex_top (w := (nI 7)) (by decide) ?_
  refine ex_iasta (a := 813) (j := 3) (v := (nI 7)) ok_X11_resetAll (mi 63 rfl) (fk hs 9 rfl) (fn hs 9 rfl) (pk_in 3 4 (by decide)) (by decide) (by decide) ?_
  refine ex_iincx (w := (nI 4)) ok_X11_resetAll (mi 64 rfl) rfl (by decide) ?_
  refine ex_goto (tgt := 99) ok_X11_resetAll (mi 65 rfl) rfl ?_
  refine ex_ls (ls' := [(0, .ref x), (1, .int (nI 4))]) ⟨rfl, rfl, trivial⟩ ?_
  refine ex_iload_n ok_X11_resetAll (mi 51 rfl) rfl ?_
  refine ex_iconst ok_X11_resetAll (mi 52 rfl) ?_
  refine ex_icmp_ge (tgt := 124) ok_X11_resetAll (mi 53 rfl) rfl (fun _ => ?_) (fun hn => absurd (by decide) hn)
  refine ex_aload_n ok_X11_resetAll (mi 66 rfl) rfl ?_
  refine ex_iconst ok_X11_resetAll (mi 67 rfl) ?_
  refine ex_putIa (a := 0) (v := (nI 0)) ok_X11_resetAll (mi 68 rfl) rfl rfl (fk hs 0 rfl) (by decide) ?_
  refine ex_aload_n ok_X11_resetAll (mi 69 rfl) rfl ?_
  refine ex_iconst ok_X11_resetAll (mi 70 rfl) ?_
  refine ex_putIa (a := 0) (v := (nI 0)) ok_X11_resetAll (mi 71 rfl) rfl rfl (fk hs 0 rfl) (by decide) ?_
  refine ex_vret ok_X11_resetAll (mi 72 rfl) rfl ?_
  exact ⟨rfl, rfl⟩
theorem rAn {x a j : Nat} {ws : List WT} {g : GT} (h : rA a j ws = none) : gx_A (ap x ws g) (x + a) j = gx_A g (x + a) j := apA0 h rfl
theorem s_X11_clear {G : GE} (hst : (ge_l G).stackTraces = false) {x : Nat} {U : UT} {g : GT} (I : INV x U g) : ex_M G 8 0 0 my_X11_clear [.ref x] g (rv none (ap x WR g)) := by
  refine ex_M_of ok_X11_clear cw_X11_clear rfl hst (Nat.le_of_ble_eq_true rfl) ?_
  refine ex_aload_n ok_X11_clear (mi 0 rfl) rfl ?_
  refine ex_callVr (As := []) ok_X11_clear (mi 1 rfl) rfl (m_X11_resetAllb hst I.1 I.2.1 I.2.2.2.2.2.2.2.2.1) rfl (fk I.1 0 rfl) rfl rfl (by decide) (by decide) (Nat.le_of_ble_eq_true rfl) (by decide) ?_
  refine ex_vret ok_X11_clear (mi 2 rfl) rfl ?_
  exact ⟨rfl, rfl⟩
theorem KFr_ap {x : Nat} {ws : List WT} {g : GT} (h : ws.all (fun w => w.2.1.blt 892) = true) : KFr x g (ap x ws g) := by
  induction ws with
  | nil => exact KFr.refl
  | cons w t ih =>
    rw [List.all_cons, Bool.and_eq_true] at h
    refine (ih h.2).trans ?_
    have hb : w.2.1 < 892 := Nat.blt_eq.mp h.1
    have hg : RG x (x + w.2.1) := ⟨by omega, by omega⟩
    show KFr x _ (ap1 x w _)
    unfold ap1
    split
    · exact KFr_I hg
    · exact KFr_A hg
    · exact KFr_F hg
    · exact KFr_FL hg
def Uup : Nat → Int32 := fun j => match j with | 0 => nI 7 | 1 => nI 511 | 2 => nI 4095 | _ => nI 7
theorem INV_WR {x : Nat} {U : UT} {g : GT} (I : INV x U g) : INV x (Uup, U.2) (ap x WR g) := by
  obtain ⟨i1, i2, i3, i4, i5, i6, i7, i8, i9⟩ := I
  refine ⟨shq apq i1, fun q hq => oq apq (i2 q hq), fun j hj => shq apq (i3 j hj), fun i hi => ?_, ?_, ?_, ?_, fun j hj => ?_, ap_tI i9.1 (by decide +kernel), i9.2.trans (KFr_ap (by decide +kernel))⟩
  · rw [oq apq (k := gx_O g (x + 2) i) rfl]; exact i4 i hi
  · rw [rq apq (k := gx_R g 1 (x + 1)) rfl]; exact i5
  · rw [apI (v := 0) (by decide +kernel)]; exact pk_in 0 400 (by decide)
  · rw [apI (v := 0) (by decide +kernel)]; exact pk_in 0 401 (by decide)
  · show gx_A (ap x WR g) (x + 813) j = Uup j
    rcases (by omega : j = 0 ∨ j = 1 ∨ j = 2 ∨ j = 3) with rfl | rfl | rfl | rfl <;> exact apA (by decide +kernel)
