/-! ===== the resets, by tables; the reset of all ===== -/
def W_X0_reset (a : Nat) : List WT := [(0, a, 6, 0, 0), (0, a, 5, 0, 0), (0, a, 4, 0, 0), (0, a, 3, 0, 0)]
theorem w_X0_reset (x a : Nat) (ws : List WT) (g : GT) : F_X0_reset (ap x ws g) (x + a) = ap x (W_X0_reset a ++ ws) g := rfl
theorem mA_X0_reset {G : GE} (hst : (ge_l G).stackTraces = false) {x a : Nat} {ws : List WT} {g : GT} (h : gx_K g (x + a) = 1) : ex_M G 1 0 0 my_X0_reset [.ref (x + a)] (ap x ws g) (rv none (ap x (W_X0_reset a ++ ws) g)) := by
  rw [← w_X0_reset]
  exact m_X0_reset hst (kq apq h)
def W_X2_reset (a : Nat) : List WT := [(0, a, 202, 0, 0), (2, a + 1, 0, 48, (-1))]
theorem w_X2_reset (x a : Nat) (ws : List WT) (g : GT) : F_X2_reset (ap x ws g) (x + a) = ap x (W_X2_reset a ++ ws) g := rfl
theorem mA_X2_reset {G : GE} (hst : (ge_l G).stackTraces = false) {x a : Nat} {ws : List WT} {g : GT} (h : sh T2 g (x + a)) : ex_M G 2 0 0 my_X2_reset [.ref (x + a)] (ap x ws g) (rv none (ap x (W_X2_reset a ++ ws) g)) := by
  rw [← w_X2_reset]
  exact m_X2_reset hst (shq apq h)
def W_X4_forget (a : Nat) : List WT := [(0, a, 411, 0, 0), (0, a, 410, 0, (-1)), (2, a + 1, 0, 10, 0), (0, a, 408, 0, 0), (0, a, 407, 0, 0)]
theorem w_X4_forget (x a : Nat) (ws : List WT) (g : GT) : F_X4_forget (ap x ws g) (x + a) = ap x (W_X4_forget a ++ ws) g := rfl
theorem mA_X4_forget {G : GE} (hst : (ge_l G).stackTraces = false) {x a : Nat} {ws : List WT} {g : GT} (h : sh T4 g (x + a)) : ex_M G 4 0 0 my_X4_forget [.ref (x + a)] (ap x ws g) (rv none (ap x (W_X4_forget a ++ ws) g)) := by
  rw [← w_X4_forget]
  exact m_X4_forget hst (shq apq h)
def W_X5_forgetRound (a : Nat) : List WT := [(0, a + 10, 105, 0, 0), (0, a + 10, 104, 0, 0), (0, a + 10, 103, 0, 0), (0, a + 10, 102, 0, 0), (0, a + 10, 101, 0, 0), (0, a + 10, 100, 0, 0), (2, a + 9, 0, 16, 0), (2, a + 8, 0, 16, 0), (2, a + 7, 0, 16, (-1)), (2, a + 6, 0, 16, 0), (0, a, 516, 0, 0), (0, a, 515, 0, 0), (2, a + 2, 0, 16, (-1)), (0, a, 513, 0, 0), (0, a, 512, 0, 0), (2, a + 1, 0, 10, 0), (0, a, 510, 0, 0), (0, a, 509, 0, 0)]
theorem w_X5_forgetRound (x a : Nat) (ws : List WT) (g : GT) : F_X5_forgetRound (ap x ws g) (x + a) = ap x (W_X5_forgetRound a ++ ws) g := rfl
theorem mA_X5_forgetRound {G : GE} (hst : (ge_l G).stackTraces = false) {x a : Nat} {ws : List WT} {g : GT} (h : sh T5 g (x + a)) : ex_M G 5 0 0 my_X5_forgetRound [.ref (x + a)] (ap x ws g) (rv none (ap x (W_X5_forgetRound a ++ ws) g)) := by
  rw [← w_X5_forgetRound]
  exact m_X5_forgetRound hst (shq apq h)
def W_X5_reset (a : Nat) : List WT := [(0, a + 10, 105, 0, 0), (0, a + 10, 104, 0, 0), (0, a + 10, 103, 0, 0), (0, a + 10, 102, 0, 0), (0, a + 10, 101, 0, 0), (0, a + 10, 100, 0, 0), (2, a + 9, 0, 16, 0), (2, a + 8, 0, 16, 0), (2, a + 7, 0, 16, (-1)), (2, a + 6, 0, 16, 0), (0, a, 516, 0, 0), (0, a, 515, 0, 0), (2, a + 2, 0, 16, (-1)), (0, a, 513, 0, 0), (0, a, 512, 0, 0), (2, a + 1, 0, 10, 0), (0, a, 510, 0, 0), (0, a, 509, 0, 0), (0, a + 3, 411, 0, 0), (0, a + 3, 410, 0, (-1)), (2, a + 4, 0, 10, 0), (0, a + 3, 408, 0, 0), (0, a + 3, 407, 0, 0), (0, a + 3, 406, 0, 0), (0, a + 3, 405, 0, (-1)), (0, a + 3, 404, 0, 0), (0, a + 3, 403, 0, 7), (0, a + 3, 402, 0, 0), (0, a, 508, 0, 0), (0, a, 507, 0, (-1)), (0, a, 506, 0, 0)]
theorem w_X5_reset (x a : Nat) (ws : List WT) (g : GT) : F_X5_reset (ap x ws g) (x + a) = ap x (W_X5_reset a ++ ws) g := rfl
theorem mA_X5_reset {G : GE} (hst : (ge_l G).stackTraces = false) {x a : Nat} {ws : List WT} {g : GT} (h : sh T5 g (x + a)) : ex_M G 6 0 0 my_X5_reset [.ref (x + a)] (ap x ws g) (rv none (ap x (W_X5_reset a ++ ws) g)) := by
  rw [← w_X5_reset]
  exact m_X5_reset hst (shq apq h)
def W_X9_reset (a : Nat) : List WT := [(0, a, 904, 0, 0), (0, a, 903, 0, 0), (2, a + 2, 0, 16, (-1)), (3, a + 1, 0, 1200, 0)]
theorem w_X9_reset (x a : Nat) (ws : List WT) (g : GT) : F_X9_reset (ap x ws g) (x + a) = ap x (W_X9_reset a ++ ws) g := rfl
theorem mA_X9_reset {G : GE} (hst : (ge_l G).stackTraces = false) {x a : Nat} {ws : List WT} {g : GT} (h : sh T9 g (x + a)) : ex_M G 2 0 0 my_X9_reset [.ref (x + a)] (ap x ws g) (rv none (ap x (W_X9_reset a ++ ws) g)) := by
  rw [← w_X9_reset]
  exact m_X9_reset hst (shq apq h)
def W_X10_reset (a : Nat) : List WT := [(2, a + 1, 0, 16, (-1)), (0, a, 1004, 0, 0), (0, a, 1003, 0, (-1))]
theorem w_X10_reset (x a : Nat) (ws : List WT) (g : GT) : F_X10_reset (ap x ws g) (x + a) = ap x (W_X10_reset a ++ ws) g := rfl
theorem mA_X10_reset {G : GE} (hst : (ge_l G).stackTraces = false) {x a : Nat} {ws : List WT} {g : GT} (h : sh T10 g (x + a)) : ex_M G 2 0 0 my_X10_reset [.ref (x + a)] (ap x ws g) (rv none (ap x (W_X10_reset a ++ ws) g)) := by
  rw [← w_X10_reset]
  exact m_X10_reset hst (shq apq h)
def W_X3_reset (s ge : Int32) (a : Nat) : List WT := [(0, a, 311, 0, 0), (0, a, 310, 0, 0), (0, a, 309, 0, (-1)), (0, a, 308, 0, (-1)), (2, a + 1, 0, 10, 0), (0, a, 306, 0, 0), (0, a, 305, 0, 0), (0, a, 304, 0, ge), (0, a, 303, 0, s)]
theorem w_X3_reset (s ge : Int32) (x a : Nat) (ws : List WT) (g : GT) : F_X3_reset (ap x ws g) s ge (x + a) = ap x (W_X3_reset s ge a ++ ws) g := rfl
theorem mA_X3_reset1 {G : GE} (hst : (ge_l G).stackTraces = false) {x a : Nat} {v : Int32} {ws : List WT} {g : GT} (h : sh T3 g (x + a)) (hv : gx_I g 300 (x + a) = v) (hw : rI a 300 ws = none) (hc : ¬ (((Int8.ofInt 7).toInt32 >>> (v &&& 31)) &&& Int32.ofInt 1 = 0)) : ex_M G 4 0 0 my_X3_reset [.ref (x + a)] (ap x ws g) (rv none (ap x (W_X3_reset 2 0 a ++ ws) g)) := by
  rw [← w_X3_reset]
  exact m_X3_reset1 hst (shq apq h) (apI0 hw hv) hc
theorem mA_X3_reset0 {G : GE} (hst : (ge_l G).stackTraces = false) {x a : Nat} {v : Int32} {ws : List WT} {g : GT} (h : sh T3 g (x + a)) (hv : gx_I g 300 (x + a) = v) (hw : rI a 300 ws = none) (hc : (((Int8.ofInt 7).toInt32 >>> (v &&& 31)) &&& Int32.ofInt 1 = 0)) : ex_M G 4 0 0 my_X3_reset [.ref (x + a)] (ap x ws g) (rv none (ap x (W_X3_reset 0 (-1) a ++ ws) g)) := by
  rw [← w_X3_reset]
  exact m_X3_reset0 hst (shq apq h) (apI0 hw hv) hc
theorem mA_fill {G : GE} (hst : (ge_l G).stackTraces = false) {x a N : Nat} {v : Int32} {ws : List WT} {g : GT} (hk : gx_K g (x + a) = 50) (hN : gx_N g (x + a) = N) (hb : N < 2 ^ 31) : ex_M G 1 0 0 my_J7_fill_53178 [.ref (x + a), .int v] (ap x ws g) (rv none (ap x ((2, a, 0, N, v) :: ws) g)) := m_J7_fill_53178 hst (kq apq hk) (nq apq hN) hb
def WR : List WT := [(0, 0, 1109, 0, (nI 0))] ++ ([(0, 0, 1108, 0, (nI 0))] ++ ([(1, 813, 3, 0, (nI 7))] ++ ([(1, 813, 2, 0, (nI 4095))] ++ ([(1, 813, 1, 0, (nI 511))] ++ ([(1, 813, 0, 0, (nI 7))] ++ (W_X10_reset 890 ++ (W_X10_reset 888 ++ (W_X10_reset 886 ++ (W_X10_reset 884 ++ (W_X10_reset 882 ++ (W_X10_reset 880 ++ (W_X10_reset 878 ++ (W_X10_reset 876 ++ (W_X10_reset 874 ++ (W_X10_reset 872 ++ (W_X10_reset 870 ++ (W_X10_reset 868 ++ (W_X3_reset 0 (-1) 865 ++ (W_X3_reset 0 (-1) 863 ++ (W_X3_reset 0 (-1) 861 ++ (W_X3_reset 0 (-1) 859 ++ (W_X3_reset 0 (-1) 857 ++ (W_X3_reset 0 (-1) 855 ++ (W_X3_reset 2 0 853 ++ (W_X3_reset 2 0 851 ++ (W_X3_reset 2 0 849 ++ (W_X5_reset 837 ++ (W_X5_reset 826 ++ (W_X5_reset 815 ++ (W_X2_reset 811 ++ (W_X9_reset 808 ++ ([(2, 807, 0, 300, (nI 0))] ++ (W_X0_reset 1)))))))))))))))))))))))))))))))))
theorem m_X11_resetAll {G : GE} (hst : (ge_l G).stackTraces = false) {x : Nat} {h : GT} (hs : sh T11 h x) (ho : tO O11 h x) (hi : tI I11 h x) : ex_M G 7 0 0 my_X11_resetAll [.ref x] h (rv none (ap x WR h)) := by
  refine ex_M_of ok_X11_resetAll cw_X11_resetAll rfl hst (Nat.le_of_ble_eq_true rfl) ?_
  refine ex_aload_n ok_X11_resetAll (mi 0 rfl) rfl ?_
  refine ex_getRx ok_X11_resetAll (mi 1 rfl) rfl rfl (fk hs 0 rfl) (fr hs 3 rfl) (fk hs 1 rfl) (by decide) ?_
  refine ex_callVr (As := []) (v := none) (g1 := (ap x (W_X0_reset 1) h)) ok_X11_resetAll (mi 2 rfl) rfl (mA_X0_reset (ws := []) hst (fk hs 1 rfl)) rfl (fk hs 1 rfl) rfl rfl (by decide) (by decide) (Nat.le_of_ble_eq_true rfl) (by decide) ?_
  refine ex_aload_n ok_X11_resetAll (mi 3 rfl) rfl ?_
  refine ex_getRx ok_X11_resetAll (mi 4 rfl) rfl rfl (kq apq (fk hs 0 rfl)) (rq apq (fr hs 4 rfl)) (kq apq (fk hs 3 rfl)) (by decide) ?_
  refine ex_iconst ok_X11_resetAll (mi 5 rfl) ?_
  refine ex_callSr (As := [_, _]) (v := none) (g1 := (ap x ([(2, 807, 0, 300, (nI 0))] ++ (W_X0_reset 1)) h)) ok_X11_resetAll (mi 6 rfl) rfl (mA_fill (ws := (W_X0_reset 1)) (v := (nI 0)) hst (fk hs 3 rfl) (fn hs 3 rfl) (by decide)) rfl rfl rfl (by decide) (Nat.le_of_ble_eq_true rfl) (by decide) ?_
  refine ex_aload_n ok_X11_resetAll (mi 7 rfl) rfl ?_
  refine ex_getRx ok_X11_resetAll (mi 8 rfl) rfl rfl (kq apq (fk hs 0 rfl)) (rq apq (fr hs 8 rfl)) (kq apq (fk hs 4 rfl)) (by decide) ?_
  refine ex_callVr (As := []) (v := none) (g1 := (ap x (W_X9_reset 808 ++ ([(2, 807, 0, 300, (nI 0))] ++ (W_X0_reset 1))) h)) ok_X11_resetAll (mi 9 rfl) rfl (mA_X9_reset (ws := ([(2, 807, 0, 300, (nI 0))] ++ (W_X0_reset 1))) hst (sh_sub 808 hs (by decide +kernel) (by decide +kernel))) rfl (kq apq (fk hs 4 rfl)) rfl rfl (by decide) (by decide) (Nat.le_of_ble_eq_true rfl) (by decide) ?_
  refine ex_aload_n ok_X11_resetAll (mi 10 rfl) rfl ?_
  refine ex_getRx ok_X11_resetAll (mi 11 rfl) rfl rfl (kq apq (fk hs 0 rfl)) (rq apq (fr hs 11 rfl)) (kq apq (fk hs 7 rfl)) (by decide) ?_
  refine ex_callVr (As := []) (v := none) (g1 := (ap x (W_X2_reset 811 ++ (W_X9_reset 808 ++ ([(2, 807, 0, 300, (nI 0))] ++ (W_X0_reset 1)))) h)) ok_X11_resetAll (mi 12 rfl) rfl (mA_X2_reset (ws := (W_X9_reset 808 ++ ([(2, 807, 0, 300, (nI 0))] ++ (W_X0_reset 1)))) hst (sh_sub 811 hs (by decide +kernel) (by decide +kernel))) rfl (kq apq (fk hs 7 rfl)) rfl rfl (by decide) (by decide) (Nat.le_of_ble_eq_true rfl) (by decide) ?_
  refine ex_iconst ok_X11_resetAll (mi 13 rfl) ?_
  refine ex_istore_n ok_X11_resetAll (mi 14 rfl) ?_
  refine ex_iload_n ok_X11_resetAll (mi 15 rfl) rfl ?_
  refine ex_iconst ok_X11_resetAll (mi 16 rfl) ?_
  refine ex_icmp_ge (tgt := 51) ok_X11_resetAll (mi 17 rfl) rfl (fun hn => absurd hn (by decide)) (fun _ => ?_)
  refine ex_aload_n ok_X11_resetAll (mi 18 rfl) rfl ?_
  refine ex_getRx ok_X11_resetAll (mi 19 rfl) rfl rfl (kq apq (fk hs 0 rfl)) (rq apq (fr hs 13 rfl)) (kq apq (fk hs 10 rfl)) (by decide) ?_
  refine ex_iload_n ok_X11_resetAll (mi 20 rfl) rfl ?_
  refine ex_aaldx (n := 1) ok_X11_resetAll (mi 21 rfl) (by decide) (kq apq (fk hs 10 rfl)) (nq apq (fn hs 10 rfl)) (pk_in 0 3 (by decide)) (oq apq (fo ho 0 rfl)) (kq apq (fk hs 11 rfl)) (by decide) ?_
  refine ex_callVr (As := []) (v := none) (g1 := (ap x (W_X5_reset 815 ++ (W_X2_reset 811 ++ (W_X9_reset 808 ++ ([(2, 807, 0, 300, (nI 0))] ++ (W_X0_reset 1))))) h)) ok_X11_resetAll (mi 22 rfl) rfl (mA_X5_reset (ws := (W_X2_reset 811 ++ (W_X9_reset 808 ++ ([(2, 807, 0, 300, (nI 0))] ++ (W_X0_reset 1))))) hst (sh_sub 815 hs (by decide +kernel) (by decide +kernel))) rfl (kq apq (fk hs 11 rfl)) rfl rfl (by decide) (by decide) (Nat.le_of_ble_eq_true rfl) (by decide) ?_
  refine ex_iincx (w := (nI 1)) ok_X11_resetAll (mi 23 rfl) rfl (by decide) ?_
  refine ex_goto (tgt := 31) ok_X11_resetAll (mi 24 rfl) rfl ?_
  refine ex_ls (ls' := [(0, .ref x), (1, .int (nI 1))]) ⟨rfl, rfl, trivial⟩ ?_
  refine ex_iload_n ok_X11_resetAll (mi 15 rfl) rfl ?_
  refine ex_iconst ok_X11_resetAll (mi 16 rfl) ?_
  refine ex_icmp_ge (tgt := 51) ok_X11_resetAll (mi 17 rfl) rfl (fun hn => absurd hn (by decide)) (fun _ => ?_)
  refine ex_aload_n ok_X11_resetAll (mi 18 rfl) rfl ?_
  refine ex_getRx ok_X11_resetAll (mi 19 rfl) rfl rfl (kq apq (fk hs 0 rfl)) (rq apq (fr hs 13 rfl)) (kq apq (fk hs 10 rfl)) (by decide) ?_
  refine ex_iload_n ok_X11_resetAll (mi 20 rfl) rfl ?_
  refine ex_aaldx (n := 1) ok_X11_resetAll (mi 21 rfl) (by decide) (kq apq (fk hs 10 rfl)) (nq apq (fn hs 10 rfl)) (pk_in 1 3 (by decide)) (oq apq (fo ho 1 rfl)) (kq apq (fk hs 22 rfl)) (by decide) ?_
  refine ex_callVr (As := []) (v := none) (g1 := (ap x (W_X5_reset 826 ++ (W_X5_reset 815 ++ (W_X2_reset 811 ++ (W_X9_reset 808 ++ ([(2, 807, 0, 300, (nI 0))] ++ (W_X0_reset 1)))))) h)) ok_X11_resetAll (mi 22 rfl) rfl (mA_X5_reset (ws := (W_X5_reset 815 ++ (W_X2_reset 811 ++ (W_X9_reset 808 ++ ([(2, 807, 0, 300, (nI 0))] ++ (W_X0_reset 1)))))) hst (sh_sub 826 hs (by decide +kernel) (by decide +kernel))) rfl (kq apq (fk hs 22 rfl)) rfl rfl (by decide) (by decide) (Nat.le_of_ble_eq_true rfl) (by decide) ?_
  refine ex_iincx (w := (nI 2)) ok_X11_resetAll (mi 23 rfl) rfl (by decide) ?_
  refine ex_goto (tgt := 31) ok_X11_resetAll (mi 24 rfl) rfl ?_
  refine ex_ls (ls' := [(0, .ref x), (1, .int (nI 2))]) ⟨rfl, rfl, trivial⟩ ?_
  refine ex_iload_n ok_X11_resetAll (mi 15 rfl) rfl ?_
  refine ex_iconst ok_X11_resetAll (mi 16 rfl) ?_
  refine ex_icmp_ge (tgt := 51) ok_X11_resetAll (mi 17 rfl) rfl (fun hn => absurd hn (by decide)) (fun _ => ?_)
  refine ex_aload_n ok_X11_resetAll (mi 18 rfl) rfl ?_
  refine ex_getRx ok_X11_resetAll (mi 19 rfl) rfl rfl (kq apq (fk hs 0 rfl)) (rq apq (fr hs 13 rfl)) (kq apq (fk hs 10 rfl)) (by decide) ?_
  refine ex_iload_n ok_X11_resetAll (mi 20 rfl) rfl ?_
  refine ex_aaldx (n := 1) ok_X11_resetAll (mi 21 rfl) (by decide) (kq apq (fk hs 10 rfl)) (nq apq (fn hs 10 rfl)) (pk_in 2 3 (by decide)) (oq apq (fo ho 2 rfl)) (kq apq (fk hs 33 rfl)) (by decide) ?_
  refine ex_callVr (As := []) (v := none) (g1 := (ap x (W_X5_reset 837 ++ (W_X5_reset 826 ++ (W_X5_reset 815 ++ (W_X2_reset 811 ++ (W_X9_reset 808 ++ ([(2, 807, 0, 300, (nI 0))] ++ (W_X0_reset 1))))))) h)) ok_X11_resetAll (mi 22 rfl) rfl (mA_X5_reset (ws := (W_X5_reset 826 ++ (W_X5_reset 815 ++ (W_X2_reset 811 ++ (W_X9_reset 808 ++ ([(2, 807, 0, 300, (nI 0))] ++ (W_X0_reset 1))))))) hst (sh_sub 837 hs (by decide +kernel) (by decide +kernel))) rfl (kq apq (fk hs 33 rfl)) rfl rfl (by decide) (by decide) (Nat.le_of_ble_eq_true rfl) (by decide) ?_
  refine ex_iincx (w := (nI 3)) ok_X11_resetAll (mi 23 rfl) rfl (by decide) ?_
  refine ex_goto (tgt := 31) ok_X11_resetAll (mi 24 rfl) rfl ?_
  refine ex_ls (ls' := [(0, .ref x), (1, .int (nI 3))]) ⟨rfl, rfl, trivial⟩ ?_
  refine ex_iload_n ok_X11_resetAll (mi 15 rfl) rfl ?_
  refine ex_iconst ok_X11_resetAll (mi 16 rfl) ?_
  refine ex_icmp_ge (tgt := 51) ok_X11_resetAll (mi 17 rfl) rfl (fun _ => ?_) (fun hn => absurd (by decide) hn)
  refine ex_iconst ok_X11_resetAll (mi 25 rfl) ?_
  refine ex_istore_n ok_X11_resetAll (mi 26 rfl) ?_
  refine ex_iload_n ok_X11_resetAll (mi 27 rfl) rfl ?_
  refine ex_bipush ok_X11_resetAll (mi 28 rfl) ?_
  refine ex_icmp_ge (tgt := 74) ok_X11_resetAll (mi 29 rfl) rfl (fun hn => absurd hn (by decide)) (fun _ => ?_)
  refine ex_aload_n ok_X11_resetAll (mi 30 rfl) rfl ?_
  refine ex_getRx ok_X11_resetAll (mi 31 rfl) rfl rfl (kq apq (fk hs 0 rfl)) (rq apq (fr hs 56 rfl)) (kq apq (fk hs 44 rfl)) (by decide) ?_
  refine ex_iload_n ok_X11_resetAll (mi 32 rfl) rfl ?_
  refine ex_aaldx (n := 2) ok_X11_resetAll (mi 33 rfl) (by decide) (kq apq (fk hs 44 rfl)) (nq apq (fn hs 44 rfl)) (pk_in 0 9 (by decide)) (oq apq (fo ho 3 rfl)) (kq apq (fk hs 45 rfl)) (by decide) ?_
  refine ex_callVr (As := []) (v := none) (g1 := (ap x (W_X3_reset 2 0 849 ++ (W_X5_reset 837 ++ (W_X5_reset 826 ++ (W_X5_reset 815 ++ (W_X2_reset 811 ++ (W_X9_reset 808 ++ ([(2, 807, 0, 300, (nI 0))] ++ (W_X0_reset 1)))))))) h)) ok_X11_resetAll (mi 34 rfl) rfl (mA_X3_reset1 (ws := (W_X5_reset 837 ++ (W_X5_reset 826 ++ (W_X5_reset 815 ++ (W_X2_reset 811 ++ (W_X9_reset 808 ++ ([(2, 807, 0, 300, (nI 0))] ++ (W_X0_reset 1)))))))) hst (sh_sub 849 hs (by decide +kernel) (by decide +kernel)) (fi hi 9 rfl) (by decide +kernel) (by decide)) rfl (kq apq (fk hs 45 rfl)) rfl rfl (by decide) (by decide) (Nat.le_of_ble_eq_true rfl) (by decide) ?_
  refine ex_iincx (w := (nI 1)) ok_X11_resetAll (mi 35 rfl) rfl (by decide) ?_
  refine ex_goto (tgt := 53) ok_X11_resetAll (mi 36 rfl) rfl ?_
  refine ex_ls (ls' := [(0, .ref x), (1, .int (nI 1))]) ⟨rfl, rfl, trivial⟩ ?_
  refine ex_iload_n ok_X11_resetAll (mi 27 rfl) rfl ?_
  refine ex_bipush ok_X11_resetAll (mi 28 rfl) ?_
  refine ex_icmp_ge (tgt := 74) ok_X11_resetAll (mi 29 rfl) rfl (fun hn => absurd hn (by decide)) (fun _ => ?_)
  refine ex_aload_n ok_X11_resetAll (mi 30 rfl) rfl ?_
  refine ex_getRx ok_X11_resetAll (mi 31 rfl) rfl rfl (kq apq (fk hs 0 rfl)) (rq apq (fr hs 56 rfl)) (kq apq (fk hs 44 rfl)) (by decide) ?_
  refine ex_iload_n ok_X11_resetAll (mi 32 rfl) rfl ?_
  refine ex_aaldx (n := 2) ok_X11_resetAll (mi 33 rfl) (by decide) (kq apq (fk hs 44 rfl)) (nq apq (fn hs 44 rfl)) (pk_in 1 9 (by decide)) (oq apq (fo ho 4 rfl)) (kq apq (fk hs 47 rfl)) (by decide) ?_
  refine ex_callVr (As := []) (v := none) (g1 := (ap x (W_X3_reset 2 0 851 ++ (W_X3_reset 2 0 849 ++ (W_X5_reset 837 ++ (W_X5_reset 826 ++ (W_X5_reset 815 ++ (W_X2_reset 811 ++ (W_X9_reset 808 ++ ([(2, 807, 0, 300, (nI 0))] ++ (W_X0_reset 1))))))))) h)) ok_X11_resetAll (mi 34 rfl) rfl (mA_X3_reset1 (ws := (W_X3_reset 2 0 849 ++ (W_X5_reset 837 ++ (W_X5_reset 826 ++ (W_X5_reset 815 ++ (W_X2_reset 811 ++ (W_X9_reset 808 ++ ([(2, 807, 0, 300, (nI 0))] ++ (W_X0_reset 1))))))))) hst (sh_sub 851 hs (by decide +kernel) (by decide +kernel)) (fi hi 10 rfl) (by decide +kernel) (by decide)) rfl (kq apq (fk hs 47 rfl)) rfl rfl (by decide) (by decide) (Nat.le_of_ble_eq_true rfl) (by decide) ?_
  refine ex_iincx (w := (nI 2)) ok_X11_resetAll (mi 35 rfl) rfl (by decide) ?_
  refine ex_goto (tgt := 53) ok_X11_resetAll (mi 36 rfl) rfl ?_
  refine ex_ls (ls' := [(0, .ref x), (1, .int (nI 2))]) ⟨rfl, rfl, trivial⟩ ?_
  refine ex_iload_n ok_X11_resetAll (mi 27 rfl) rfl ?_
  refine ex_bipush ok_X11_resetAll (mi 28 rfl) ?_
  refine ex_icmp_ge (tgt := 74) ok_X11_resetAll (mi 29 rfl) rfl (fun hn => absurd hn (by decide)) (fun _ => ?_)
  refine ex_aload_n ok_X11_resetAll (mi 30 rfl) rfl ?_
  refine ex_getRx ok_X11_resetAll (mi 31 rfl) rfl rfl (kq apq (fk hs 0 rfl)) (rq apq (fr hs 56 rfl)) (kq apq (fk hs 44 rfl)) (by decide) ?_
  refine ex_iload_n ok_X11_resetAll (mi 32 rfl) rfl ?_
  refine ex_aaldx (n := 2) ok_X11_resetAll (mi 33 rfl) (by decide) (kq apq (fk hs 44 rfl)) (nq apq (fn hs 44 rfl)) (pk_in 2 9 (by decide)) (oq apq (fo ho 5 rfl)) (kq apq (fk hs 49 rfl)) (by decide) ?_
  refine ex_callVr (As := []) (v := none) (g1 := (ap x (W_X3_reset 2 0 853 ++ (W_X3_reset 2 0 851 ++ (W_X3_reset 2 0 849 ++ (W_X5_reset 837 ++ (W_X5_reset 826 ++ (W_X5_reset 815 ++ (W_X2_reset 811 ++ (W_X9_reset 808 ++ ([(2, 807, 0, 300, (nI 0))] ++ (W_X0_reset 1)))))))))) h)) ok_X11_resetAll (mi 34 rfl) rfl (mA_X3_reset1 (ws := (W_X3_reset 2 0 851 ++ (W_X3_reset 2 0 849 ++ (W_X5_reset 837 ++ (W_X5_reset 826 ++ (W_X5_reset 815 ++ (W_X2_reset 811 ++ (W_X9_reset 808 ++ ([(2, 807, 0, 300, (nI 0))] ++ (W_X0_reset 1)))))))))) hst (sh_sub 853 hs (by decide +kernel) (by decide +kernel)) (fi hi 11 rfl) (by decide +kernel) (by decide)) rfl (kq apq (fk hs 49 rfl)) rfl rfl (by decide) (by decide) (Nat.le_of_ble_eq_true rfl) (by decide) ?_
  refine ex_iincx (w := (nI 3)) ok_X11_resetAll (mi 35 rfl) rfl (by decide) ?_
  refine ex_goto (tgt := 53) ok_X11_resetAll (mi 36 rfl) rfl ?_
  refine ex_ls (ls' := [(0, .ref x), (1, .int (nI 3))]) ⟨rfl, rfl, trivial⟩ ?_
  refine ex_iload_n ok_X11_resetAll (mi 27 rfl) rfl ?_
  refine ex_bipush ok_X11_resetAll (mi 28 rfl) ?_
  refine ex_icmp_ge (tgt := 74) ok_X11_resetAll (mi 29 rfl) rfl (fun hn => absurd hn (by decide)) (fun _ => ?_)
  refine ex_aload_n ok_X11_resetAll (mi 30 rfl) rfl ?_
  refine ex_getRx ok_X11_resetAll (mi 31 rfl) rfl rfl (kq apq (fk hs 0 rfl)) (rq apq (fr hs 56 rfl)) (kq apq (fk hs 44 rfl)) (by decide) ?_
  refine ex_iload_n ok_X11_resetAll (mi 32 rfl) rfl ?_
  refine ex_aaldx (n := 2) ok_X11_resetAll (mi 33 rfl) (by decide) (kq apq (fk hs 44 rfl)) (nq apq (fn hs 44 rfl)) (pk_in 3 9 (by decide)) (oq apq (fo ho 6 rfl)) (kq apq (fk hs 51 rfl)) (by decide) ?_
  refine ex_callVr (As := []) (v := none) (g1 := (ap x (W_X3_reset 0 (-1) 855 ++ (W_X3_reset 2 0 853 ++ (W_X3_reset 2 0 851 ++ (W_X3_reset 2 0 849 ++ (W_X5_reset 837 ++ (W_X5_reset 826 ++ (W_X5_reset 815 ++ (W_X2_reset 811 ++ (W_X9_reset 808 ++ ([(2, 807, 0, 300, (nI 0))] ++ (W_X0_reset 1))))))))))) h)) ok_X11_resetAll (mi 34 rfl) rfl (mA_X3_reset0 (ws := (W_X3_reset 2 0 853 ++ (W_X3_reset 2 0 851 ++ (W_X3_reset 2 0 849 ++ (W_X5_reset 837 ++ (W_X5_reset 826 ++ (W_X5_reset 815 ++ (W_X2_reset 811 ++ (W_X9_reset 808 ++ ([(2, 807, 0, 300, (nI 0))] ++ (W_X0_reset 1))))))))))) hst (sh_sub 855 hs (by decide +kernel) (by decide +kernel)) (fi hi 12 rfl) (by decide +kernel) (by decide)) rfl (kq apq (fk hs 51 rfl)) rfl rfl (by decide) (by decide) (Nat.le_of_ble_eq_true rfl) (by decide) ?_
  refine ex_iincx (w := (nI 4)) ok_X11_resetAll (mi 35 rfl) rfl (by decide) ?_
  refine ex_goto (tgt := 53) ok_X11_resetAll (mi 36 rfl) rfl ?_
  refine ex_ls (ls' := [(0, .ref x), (1, .int (nI 4))]) ⟨rfl, rfl, trivial⟩ ?_
  refine ex_iload_n ok_X11_resetAll (mi 27 rfl) rfl ?_
  refine ex_bipush ok_X11_resetAll (mi 28 rfl) ?_
  refine ex_icmp_ge (tgt := 74) ok_X11_resetAll (mi 29 rfl) rfl (fun hn => absurd hn (by decide)) (fun _ => ?_)
  refine ex_aload_n ok_X11_resetAll (mi 30 rfl) rfl ?_
  refine ex_getRx ok_X11_resetAll (mi 31 rfl) rfl rfl (kq apq (fk hs 0 rfl)) (rq apq (fr hs 56 rfl)) (kq apq (fk hs 44 rfl)) (by decide) ?_
  refine ex_iload_n ok_X11_resetAll (mi 32 rfl) rfl ?_
  refine ex_aaldx (n := 2) ok_X11_resetAll (mi 33 rfl) (by decide) (kq apq (fk hs 44 rfl)) (nq apq (fn hs 44 rfl)) (pk_in 4 9 (by decide)) (oq apq (fo ho 7 rfl)) (kq apq (fk hs 53 rfl)) (by decide) ?_
  refine ex_callVr (As := []) (v := none) (g1 := (ap x (W_X3_reset 0 (-1) 857 ++ (W_X3_reset 0 (-1) 855 ++ (W_X3_reset 2 0 853 ++ (W_X3_reset 2 0 851 ++ (W_X3_reset 2 0 849 ++ (W_X5_reset 837 ++ (W_X5_reset 826 ++ (W_X5_reset 815 ++ (W_X2_reset 811 ++ (W_X9_reset 808 ++ ([(2, 807, 0, 300, (nI 0))] ++ (W_X0_reset 1)))))))))))) h)) ok_X11_resetAll (mi 34 rfl) rfl (mA_X3_reset0 (ws := (W_X3_reset 0 (-1) 855 ++ (W_X3_reset 2 0 853 ++ (W_X3_reset 2 0 851 ++ (W_X3_reset 2 0 849 ++ (W_X5_reset 837 ++ (W_X5_reset 826 ++ (W_X5_reset 815 ++ (W_X2_reset 811 ++ (W_X9_reset 808 ++ ([(2, 807, 0, 300, (nI 0))] ++ (W_X0_reset 1)))))))))))) hst (sh_sub 857 hs (by decide +kernel) (by decide +kernel)) (fi hi 13 rfl) (by decide +kernel) (by decide)) rfl (kq apq (fk hs 53 rfl)) rfl rfl (by decide) (by decide) (Nat.le_of_ble_eq_true rfl) (by decide) ?_
  refine ex_iincx (w := (nI 5)) ok_X11_resetAll (mi 35 rfl) rfl (by decide) ?_
  refine ex_goto (tgt := 53) ok_X11_resetAll (mi 36 rfl) rfl ?_
  refine ex_ls (ls' := [(0, .ref x), (1, .int (nI 5))]) ⟨rfl, rfl, trivial⟩ ?_
  refine ex_iload_n ok_X11_resetAll (mi 27 rfl) rfl ?_
  refine ex_bipush ok_X11_resetAll (mi 28 rfl) ?_
  refine ex_icmp_ge (tgt := 74) ok_X11_resetAll (mi 29 rfl) rfl (fun hn => absurd hn (by decide)) (fun _ => ?_)
  refine ex_aload_n ok_X11_resetAll (mi 30 rfl) rfl ?_
  refine ex_getRx ok_X11_resetAll (mi 31 rfl) rfl rfl (kq apq (fk hs 0 rfl)) (rq apq (fr hs 56 rfl)) (kq apq (fk hs 44 rfl)) (by decide) ?_
  refine ex_iload_n ok_X11_resetAll (mi 32 rfl) rfl ?_
  refine ex_aaldx (n := 2) ok_X11_resetAll (mi 33 rfl) (by decide) (kq apq (fk hs 44 rfl)) (nq apq (fn hs 44 rfl)) (pk_in 5 9 (by decide)) (oq apq (fo ho 8 rfl)) (kq apq (fk hs 55 rfl)) (by decide) ?_
  refine ex_callVr (As := []) (v := none) (g1 := (ap x (W_X3_reset 0 (-1) 859 ++ (W_X3_reset 0 (-1) 857 ++ (W_X3_reset 0 (-1) 855 ++ (W_X3_reset 2 0 853 ++ (W_X3_reset 2 0 851 ++ (W_X3_reset 2 0 849 ++ (W_X5_reset 837 ++ (W_X5_reset 826 ++ (W_X5_reset 815 ++ (W_X2_reset 811 ++ (W_X9_reset 808 ++ ([(2, 807, 0, 300, (nI 0))] ++ (W_X0_reset 1))))))))))))) h)) ok_X11_resetAll (mi 34 rfl) rfl (mA_X3_reset0 (ws := (W_X3_reset 0 (-1) 857 ++ (W_X3_reset 0 (-1) 855 ++ (W_X3_reset 2 0 853 ++ (W_X3_reset 2 0 851 ++ (W_X3_reset 2 0 849 ++ (W_X5_reset 837 ++ (W_X5_reset 826 ++ (W_X5_reset 815 ++ (W_X2_reset 811 ++ (W_X9_reset 808 ++ ([(2, 807, 0, 300, (nI 0))] ++ (W_X0_reset 1))))))))))))) hst (sh_sub 859 hs (by decide +kernel) (by decide +kernel)) (fi hi 14 rfl) (by decide +kernel) (by decide)) rfl (kq apq (fk hs 55 rfl)) rfl rfl (by decide) (by decide) (Nat.le_of_ble_eq_true rfl) (by decide) ?_
  refine ex_iincx (w := (nI 6)) ok_X11_resetAll (mi 35 rfl) rfl (by decide) ?_
  refine ex_goto (tgt := 53) ok_X11_resetAll (mi 36 rfl) rfl ?_
  refine ex_ls (ls' := [(0, .ref x), (1, .int (nI 6))]) ⟨rfl, rfl, trivial⟩ ?_
  refine ex_iload_n ok_X11_resetAll (mi 27 rfl) rfl ?_
  refine ex_bipush ok_X11_resetAll (mi 28 rfl) ?_
  refine ex_icmp_ge (tgt := 74) ok_X11_resetAll (mi 29 rfl) rfl (fun hn => absurd hn (by decide)) (fun _ => ?_)
  refine ex_aload_n ok_X11_resetAll (mi 30 rfl) rfl ?_
  refine ex_getRx ok_X11_resetAll (mi 31 rfl) rfl rfl (kq apq (fk hs 0 rfl)) (rq apq (fr hs 56 rfl)) (kq apq (fk hs 44 rfl)) (by decide) ?_
  refine ex_iload_n ok_X11_resetAll (mi 32 rfl) rfl ?_
  refine ex_aaldx (n := 2) ok_X11_resetAll (mi 33 rfl) (by decide) (kq apq (fk hs 44 rfl)) (nq apq (fn hs 44 rfl)) (pk_in 6 9 (by decide)) (oq apq (fo ho 9 rfl)) (kq apq (fk hs 57 rfl)) (by decide) ?_
  refine ex_callVr (As := []) (v := none) (g1 := (ap x (W_X3_reset 0 (-1) 861 ++ (W_X3_reset 0 (-1) 859 ++ (W_X3_reset 0 (-1) 857 ++ (W_X3_reset 0 (-1) 855 ++ (W_X3_reset 2 0 853 ++ (W_X3_reset 2 0 851 ++ (W_X3_reset 2 0 849 ++ (W_X5_reset 837 ++ (W_X5_reset 826 ++ (W_X5_reset 815 ++ (W_X2_reset 811 ++ (W_X9_reset 808 ++ ([(2, 807, 0, 300, (nI 0))] ++ (W_X0_reset 1)))))))))))))) h)) ok_X11_resetAll (mi 34 rfl) rfl (mA_X3_reset0 (ws := (W_X3_reset 0 (-1) 859 ++ (W_X3_reset 0 (-1) 857 ++ (W_X3_reset 0 (-1) 855 ++ (W_X3_reset 2 0 853 ++ (W_X3_reset 2 0 851 ++ (W_X3_reset 2 0 849 ++ (W_X5_reset 837 ++ (W_X5_reset 826 ++ (W_X5_reset 815 ++ (W_X2_reset 811 ++ (W_X9_reset 808 ++ ([(2, 807, 0, 300, (nI 0))] ++ (W_X0_reset 1)))))))))))))) hst (sh_sub 861 hs (by decide +kernel) (by decide +kernel)) (fi hi 15 rfl) (by decide +kernel) (by decide)) rfl (kq apq (fk hs 57 rfl)) rfl rfl (by decide) (by decide) (Nat.le_of_ble_eq_true rfl) (by decide) ?_
  refine ex_iincx (w := (nI 7)) ok_X11_resetAll (mi 35 rfl) rfl (by decide) ?_
  refine ex_goto (tgt := 53) ok_X11_resetAll (mi 36 rfl) rfl ?_
  refine ex_ls (ls' := [(0, .ref x), (1, .int (nI 7))]) ⟨rfl, rfl, trivial⟩ ?_
  refine ex_iload_n ok_X11_resetAll (mi 27 rfl) rfl ?_
  refine ex_bipush ok_X11_resetAll (mi 28 rfl) ?_
  refine ex_icmp_ge (tgt := 74) ok_X11_resetAll (mi 29 rfl) rfl (fun hn => absurd hn (by decide)) (fun _ => ?_)
  refine ex_aload_n ok_X11_resetAll (mi 30 rfl) rfl ?_
  refine ex_getRx ok_X11_resetAll (mi 31 rfl) rfl rfl (kq apq (fk hs 0 rfl)) (rq apq (fr hs 56 rfl)) (kq apq (fk hs 44 rfl)) (by decide) ?_
  refine ex_iload_n ok_X11_resetAll (mi 32 rfl) rfl ?_
  refine ex_aaldx (n := 2) ok_X11_resetAll (mi 33 rfl) (by decide) (kq apq (fk hs 44 rfl)) (nq apq (fn hs 44 rfl)) (pk_in 7 9 (by decide)) (oq apq (fo ho 10 rfl)) (kq apq (fk hs 59 rfl)) (by decide) ?_
  refine ex_callVr (As := []) (v := none) (g1 := (ap x (W_X3_reset 0 (-1) 863 ++ (W_X3_reset 0 (-1) 861 ++ (W_X3_reset 0 (-1) 859 ++ (W_X3_reset 0 (-1) 857 ++ (W_X3_reset 0 (-1) 855 ++ (W_X3_reset 2 0 853 ++ (W_X3_reset 2 0 851 ++ (W_X3_reset 2 0 849 ++ (W_X5_reset 837 ++ (W_X5_reset 826 ++ (W_X5_reset 815 ++ (W_X2_reset 811 ++ (W_X9_reset 808 ++ ([(2, 807, 0, 300, (nI 0))] ++ (W_X0_reset 1))))))))))))))) h)) ok_X11_resetAll (mi 34 rfl) rfl (mA_X3_reset0 (ws := (W_X3_reset 0 (-1) 861 ++ (W_X3_reset 0 (-1) 859 ++ (W_X3_reset 0 (-1) 857 ++ (W_X3_reset 0 (-1) 855 ++ (W_X3_reset 2 0 853 ++ (W_X3_reset 2 0 851 ++ (W_X3_reset 2 0 849 ++ (W_X5_reset 837 ++ (W_X5_reset 826 ++ (W_X5_reset 815 ++ (W_X2_reset 811 ++ (W_X9_reset 808 ++ ([(2, 807, 0, 300, (nI 0))] ++ (W_X0_reset 1))))))))))))))) hst (sh_sub 863 hs (by decide +kernel) (by decide +kernel)) (fi hi 16 rfl) (by decide +kernel) (by decide)) rfl (kq apq (fk hs 59 rfl)) rfl rfl (by decide) (by decide) (Nat.le_of_ble_eq_true rfl) (by decide) ?_
  refine ex_iincx (w := (nI 8)) ok_X11_resetAll (mi 35 rfl) rfl (by decide) ?_
  refine ex_goto (tgt := 53) ok_X11_resetAll (mi 36 rfl) rfl ?_
  refine ex_ls (ls' := [(0, .ref x), (1, .int (nI 8))]) ⟨rfl, rfl, trivial⟩ ?_
  refine ex_iload_n ok_X11_resetAll (mi 27 rfl) rfl ?_
  refine ex_bipush ok_X11_resetAll (mi 28 rfl) ?_
  refine ex_icmp_ge (tgt := 74) ok_X11_resetAll (mi 29 rfl) rfl (fun hn => absurd hn (by decide)) (fun _ => ?_)
  refine ex_aload_n ok_X11_resetAll (mi 30 rfl) rfl ?_
  refine ex_getRx ok_X11_resetAll (mi 31 rfl) rfl rfl (kq apq (fk hs 0 rfl)) (rq apq (fr hs 56 rfl)) (kq apq (fk hs 44 rfl)) (by decide) ?_
  refine ex_iload_n ok_X11_resetAll (mi 32 rfl) rfl ?_
  refine ex_aaldx (n := 2) ok_X11_resetAll (mi 33 rfl) (by decide) (kq apq (fk hs 44 rfl)) (nq apq (fn hs 44 rfl)) (pk_in 8 9 (by decide)) (oq apq (fo ho 11 rfl)) (kq apq (fk hs 61 rfl)) (by decide) ?_
  refine ex_callVr (As := []) (v := none) (g1 := (ap x (W_X3_reset 0 (-1) 865 ++ (W_X3_reset 0 (-1) 863 ++ (W_X3_reset 0 (-1) 861 ++ (W_X3_reset 0 (-1) 859 ++ (W_X3_reset 0 (-1) 857 ++ (W_X3_reset 0 (-1) 855 ++ (W_X3_reset 2 0 853 ++ (W_X3_reset 2 0 851 ++ (W_X3_reset 2 0 849 ++ (W_X5_reset 837 ++ (W_X5_reset 826 ++ (W_X5_reset 815 ++ (W_X2_reset 811 ++ (W_X9_reset 808 ++ ([(2, 807, 0, 300, (nI 0))] ++ (W_X0_reset 1)))))))))))))))) h)) ok_X11_resetAll (mi 34 rfl) rfl (mA_X3_reset0 (ws := (W_X3_reset 0 (-1) 863 ++ (W_X3_reset 0 (-1) 861 ++ (W_X3_reset 0 (-1) 859 ++ (W_X3_reset 0 (-1) 857 ++ (W_X3_reset 0 (-1) 855 ++ (W_X3_reset 2 0 853 ++ (W_X3_reset 2 0 851 ++ (W_X3_reset 2 0 849 ++ (W_X5_reset 837 ++ (W_X5_reset 826 ++ (W_X5_reset 815 ++ (W_X2_reset 811 ++ (W_X9_reset 808 ++ ([(2, 807, 0, 300, (nI 0))] ++ (W_X0_reset 1)))))))))))))))) hst (sh_sub 865 hs (by decide +kernel) (by decide +kernel)) (fi hi 17 rfl) (by decide +kernel) (by decide)) rfl (kq apq (fk hs 61 rfl)) rfl rfl (by decide) (by decide) (Nat.le_of_ble_eq_true rfl) (by decide) ?_
  refine ex_iincx (w := (nI 9)) ok_X11_resetAll (mi 35 rfl) rfl (by decide) ?_
  refine ex_goto (tgt := 53) ok_X11_resetAll (mi 36 rfl) rfl ?_
  refine ex_ls (ls' := [(0, .ref x), (1, .int (nI 9))]) ⟨rfl, rfl, trivial⟩ ?_
  refine ex_iload_n ok_X11_resetAll (mi 27 rfl) rfl ?_
  refine ex_bipush ok_X11_resetAll (mi 28 rfl) ?_
  refine ex_icmp_ge (tgt := 74) ok_X11_resetAll (mi 29 rfl) rfl (fun _ => ?_) (fun hn => absurd (by decide) hn)
  refine ex_iconst ok_X11_resetAll (mi 37 rfl) ?_
  refine ex_istore_n ok_X11_resetAll (mi 38 rfl) ?_
  refine ex_iload_n ok_X11_resetAll (mi 39 rfl) rfl ?_
  refine ex_bipush ok_X11_resetAll (mi 40 rfl) ?_
  refine ex_icmp_ge (tgt := 97) ok_X11_resetAll (mi 41 rfl) rfl (fun hn => absurd hn (by decide)) (fun _ => ?_)
  refine ex_aload_n ok_X11_resetAll (mi 42 rfl) rfl ?_
  refine ex_getRx ok_X11_resetAll (mi 43 rfl) rfl rfl (kq apq (fk hs 0 rfl)) (rq apq (fr hs 84 rfl)) (kq apq (fk hs 63 rfl)) (by decide) ?_
  refine ex_iload_n ok_X11_resetAll (mi 44 rfl) rfl ?_
  refine ex_aaldx (n := 3) ok_X11_resetAll (mi 45 rfl) (by decide) (kq apq (fk hs 63 rfl)) (nq apq (fn hs 63 rfl)) (pk_in 0 12 (by decide)) (oq apq (fo ho 12 rfl)) (kq apq (fk hs 64 rfl)) (by decide) ?_
  refine ex_callVr (As := []) (v := none) (g1 := (ap x (W_X10_reset 868 ++ (W_X3_reset 0 (-1) 865 ++ (W_X3_reset 0 (-1) 863 ++ (W_X3_reset 0 (-1) 861 ++ (W_X3_reset 0 (-1) 859 ++ (W_X3_reset 0 (-1) 857 ++ (W_X3_reset 0 (-1) 855 ++ (W_X3_reset 2 0 853 ++ (W_X3_reset 2 0 851 ++ (W_X3_reset 2 0 849 ++ (W_X5_reset 837 ++ (W_X5_reset 826 ++ (W_X5_reset 815 ++ (W_X2_reset 811 ++ (W_X9_reset 808 ++ ([(2, 807, 0, 300, (nI 0))] ++ (W_X0_reset 1))))))))))))))))) h)) ok_X11_resetAll (mi 46 rfl) rfl (mA_X10_reset (ws := (W_X3_reset 0 (-1) 865 ++ (W_X3_reset 0 (-1) 863 ++ (W_X3_reset 0 (-1) 861 ++ (W_X3_reset 0 (-1) 859 ++ (W_X3_reset 0 (-1) 857 ++ (W_X3_reset 0 (-1) 855 ++ (W_X3_reset 2 0 853 ++ (W_X3_reset 2 0 851 ++ (W_X3_reset 2 0 849 ++ (W_X5_reset 837 ++ (W_X5_reset 826 ++ (W_X5_reset 815 ++ (W_X2_reset 811 ++ (W_X9_reset 808 ++ ([(2, 807, 0, 300, (nI 0))] ++ (W_X0_reset 1))))))))))))))))) hst (sh_sub 868 hs (by decide +kernel) (by decide +kernel))) rfl (kq apq (fk hs 64 rfl)) rfl rfl (by decide) (by decide) (Nat.le_of_ble_eq_true rfl) (by decide) ?_
  refine ex_iincx (w := (nI 1)) ok_X11_resetAll (mi 47 rfl) rfl (by decide) ?_
  refine ex_goto (tgt := 76) ok_X11_resetAll (mi 48 rfl) rfl ?_
  refine ex_ls (ls' := [(0, .ref x), (1, .int (nI 1))]) ⟨rfl, rfl, trivial⟩ ?_
  refine ex_iload_n ok_X11_resetAll (mi 39 rfl) rfl ?_
  refine ex_bipush ok_X11_resetAll (mi 40 rfl) ?_
  refine ex_icmp_ge (tgt := 97) ok_X11_resetAll (mi 41 rfl) rfl (fun hn => absurd hn (by decide)) (fun _ => ?_)
  refine ex_aload_n ok_X11_resetAll (mi 42 rfl) rfl ?_
  refine ex_getRx ok_X11_resetAll (mi 43 rfl) rfl rfl (kq apq (fk hs 0 rfl)) (rq apq (fr hs 84 rfl)) (kq apq (fk hs 63 rfl)) (by decide) ?_
  refine ex_iload_n ok_X11_resetAll (mi 44 rfl) rfl ?_
  refine ex_aaldx (n := 3) ok_X11_resetAll (mi 45 rfl) (by decide) (kq apq (fk hs 63 rfl)) (nq apq (fn hs 63 rfl)) (pk_in 1 12 (by decide)) (oq apq (fo ho 13 rfl)) (kq apq (fk hs 66 rfl)) (by decide) ?_
  refine ex_callVr (As := []) (v := none) (g1 := (ap x (W_X10_reset 870 ++ (W_X10_reset 868 ++ (W_X3_reset 0 (-1) 865 ++ (W_X3_reset 0 (-1) 863 ++ (W_X3_reset 0 (-1) 861 ++ (W_X3_reset 0 (-1) 859 ++ (W_X3_reset 0 (-1) 857 ++ (W_X3_reset 0 (-1) 855 ++ (W_X3_reset 2 0 853 ++ (W_X3_reset 2 0 851 ++ (W_X3_reset 2 0 849 ++ (W_X5_reset 837 ++ (W_X5_reset 826 ++ (W_X5_reset 815 ++ (W_X2_reset 811 ++ (W_X9_reset 808 ++ ([(2, 807, 0, 300, (nI 0))] ++ (W_X0_reset 1)))))))))))))))))) h)) ok_X11_resetAll (mi 46 rfl) rfl (mA_X10_reset (ws := (W_X10_reset 868 ++ (W_X3_reset 0 (-1) 865 ++ (W_X3_reset 0 (-1) 863 ++ (W_X3_reset 0 (-1) 861 ++ (W_X3_reset 0 (-1) 859 ++ (W_X3_reset 0 (-1) 857 ++ (W_X3_reset 0 (-1) 855 ++ (W_X3_reset 2 0 853 ++ (W_X3_reset 2 0 851 ++ (W_X3_reset 2 0 849 ++ (W_X5_reset 837 ++ (W_X5_reset 826 ++ (W_X5_reset 815 ++ (W_X2_reset 811 ++ (W_X9_reset 808 ++ ([(2, 807, 0, 300, (nI 0))] ++ (W_X0_reset 1)))))))))))))))))) hst (sh_sub 870 hs (by decide +kernel) (by decide +kernel))) rfl (kq apq (fk hs 66 rfl)) rfl rfl (by decide) (by decide) (Nat.le_of_ble_eq_true rfl) (by decide) ?_
  refine ex_iincx (w := (nI 2)) ok_X11_resetAll (mi 47 rfl) rfl (by decide) ?_
  refine ex_goto (tgt := 76) ok_X11_resetAll (mi 48 rfl) rfl ?_
  refine ex_ls (ls' := [(0, .ref x), (1, .int (nI 2))]) ⟨rfl, rfl, trivial⟩ ?_
  refine ex_iload_n ok_X11_resetAll (mi 39 rfl) rfl ?_
  refine ex_bipush ok_X11_resetAll (mi 40 rfl) ?_
  refine ex_icmp_ge (tgt := 97) ok_X11_resetAll (mi 41 rfl) rfl (fun hn => absurd hn (by decide)) (fun _ => ?_)
  refine ex_aload_n ok_X11_resetAll (mi 42 rfl) rfl ?_
  refine ex_getRx ok_X11_resetAll (mi 43 rfl) rfl rfl (kq apq (fk hs 0 rfl)) (rq apq (fr hs 84 rfl)) (kq apq (fk hs 63 rfl)) (by decide) ?_
  refine ex_iload_n ok_X11_resetAll (mi 44 rfl) rfl ?_
  refine ex_aaldx (n := 3) ok_X11_resetAll (mi 45 rfl) (by decide) (kq apq (fk hs 63 rfl)) (nq apq (fn hs 63 rfl)) (pk_in 2 12 (by decide)) (oq apq (fo ho 14 rfl)) (kq apq (fk hs 68 rfl)) (by decide) ?_
  refine ex_callVr (As := []) (v := none) (g1 := (ap x (W_X10_reset 872 ++ (W_X10_reset 870 ++ (W_X10_reset 868 ++ (W_X3_reset 0 (-1) 865 ++ (W_X3_reset 0 (-1) 863 ++ (W_X3_reset 0 (-1) 861 ++ (W_X3_reset 0 (-1) 859 ++ (W_X3_reset 0 (-1) 857 ++ (W_X3_reset 0 (-1) 855 ++ (W_X3_reset 2 0 853 ++ (W_X3_reset 2 0 851 ++ (W_X3_reset 2 0 849 ++ (W_X5_reset 837 ++ (W_X5_reset 826 ++ (W_X5_reset 815 ++ (W_X2_reset 811 ++ (W_X9_reset 808 ++ ([(2, 807, 0, 300, (nI 0))] ++ (W_X0_reset 1))))))))))))))))))) h)) ok_X11_resetAll (mi 46 rfl) rfl (mA_X10_reset (ws := (W_X10_reset 870 ++ (W_X10_reset 868 ++ (W_X3_reset 0 (-1) 865 ++ (W_X3_reset 0 (-1) 863 ++ (W_X3_reset 0 (-1) 861 ++ (W_X3_reset 0 (-1) 859 ++ (W_X3_reset 0 (-1) 857 ++ (W_X3_reset 0 (-1) 855 ++ (W_X3_reset 2 0 853 ++ (W_X3_reset 2 0 851 ++ (W_X3_reset 2 0 849 ++ (W_X5_reset 837 ++ (W_X5_reset 826 ++ (W_X5_reset 815 ++ (W_X2_reset 811 ++ (W_X9_reset 808 ++ ([(2, 807, 0, 300, (nI 0))] ++ (W_X0_reset 1))))))))))))))))))) hst (sh_sub 872 hs (by decide +kernel) (by decide +kernel))) rfl (kq apq (fk hs 68 rfl)) rfl rfl (by decide) (by decide) (Nat.le_of_ble_eq_true rfl) (by decide) ?_
  refine ex_iincx (w := (nI 3)) ok_X11_resetAll (mi 47 rfl) rfl (by decide) ?_
  refine ex_goto (tgt := 76) ok_X11_resetAll (mi 48 rfl) rfl ?_
  refine ex_ls (ls' := [(0, .ref x), (1, .int (nI 3))]) ⟨rfl, rfl, trivial⟩ ?_
  refine ex_iload_n ok_X11_resetAll (mi 39 rfl) rfl ?_
  refine ex_bipush ok_X11_resetAll (mi 40 rfl) ?_
  refine ex_icmp_ge (tgt := 97) ok_X11_resetAll (mi 41 rfl) rfl (fun hn => absurd hn (by decide)) (fun _ => ?_)
  refine ex_aload_n ok_X11_resetAll (mi 42 rfl) rfl ?_
  refine ex_getRx ok_X11_resetAll (mi 43 rfl) rfl rfl (kq apq (fk hs 0 rfl)) (rq apq (fr hs 84 rfl)) (kq apq (fk hs 63 rfl)) (by decide) ?_
  refine ex_iload_n ok_X11_resetAll (mi 44 rfl) rfl ?_
  refine ex_aaldx (n := 3) ok_X11_resetAll (mi 45 rfl) (by decide) (kq apq (fk hs 63 rfl)) (nq apq (fn hs 63 rfl)) (pk_in 3 12 (by decide)) (oq apq (fo ho 15 rfl)) (kq apq (fk hs 70 rfl)) (by decide) ?_
  refine ex_callVr (As := []) (v := none) (g1 := (ap x (W_X10_reset 874 ++ (W_X10_reset 872 ++ (W_X10_reset 870 ++ (W_X10_reset 868 ++ (W_X3_reset 0 (-1) 865 ++ (W_X3_reset 0 (-1) 863 ++ (W_X3_reset 0 (-1) 861 ++ (W_X3_reset 0 (-1) 859 ++ (W_X3_reset 0 (-1) 857 ++ (W_X3_reset 0 (-1) 855 ++ (W_X3_reset 2 0 853 ++ (W_X3_reset 2 0 851 ++ (W_X3_reset 2 0 849 ++ (W_X5_reset 837 ++ (W_X5_reset 826 ++ (W_X5_reset 815 ++ (W_X2_reset 811 ++ (W_X9_reset 808 ++ ([(2, 807, 0, 300, (nI 0))] ++ (W_X0_reset 1)))))))))))))))))))) h)) ok_X11_resetAll (mi 46 rfl) rfl (mA_X10_reset (ws := (W_X10_reset 872 ++ (W_X10_reset 870 ++ (W_X10_reset 868 ++ (W_X3_reset 0 (-1) 865 ++ (W_X3_reset 0 (-1) 863 ++ (W_X3_reset 0 (-1) 861 ++ (W_X3_reset 0 (-1) 859 ++ (W_X3_reset 0 (-1) 857 ++ (W_X3_reset 0 (-1) 855 ++ (W_X3_reset 2 0 853 ++ (W_X3_reset 2 0 851 ++ (W_X3_reset 2 0 849 ++ (W_X5_reset 837 ++ (W_X5_reset 826 ++ (W_X5_reset 815 ++ (W_X2_reset 811 ++ (W_X9_reset 808 ++ ([(2, 807, 0, 300, (nI 0))] ++ (W_X0_reset 1)))))))))))))))))))) hst (sh_sub 874 hs (by decide +kernel) (by decide +kernel))) rfl (kq apq (fk hs 70 rfl)) rfl rfl (by decide) (by decide) (Nat.le_of_ble_eq_true rfl) (by decide) ?_
  refine ex_iincx (w := (nI 4)) ok_X11_resetAll (mi 47 rfl) rfl (by decide) ?_
  refine ex_goto (tgt := 76) ok_X11_resetAll (mi 48 rfl) rfl ?_
  refine ex_ls (ls' := [(0, .ref x), (1, .int (nI 4))]) ⟨rfl, rfl, trivial⟩ ?_
  refine ex_iload_n ok_X11_resetAll (mi 39 rfl) rfl ?_
  refine ex_bipush ok_X11_resetAll (mi 40 rfl) ?_
  refine ex_icmp_ge (tgt := 97) ok_X11_resetAll (mi 41 rfl) rfl (fun hn => absurd hn (by decide)) (fun _ => ?_)
  refine ex_aload_n ok_X11_resetAll (mi 42 rfl) rfl ?_
  refine ex_getRx ok_X11_resetAll (mi 43 rfl) rfl rfl (kq apq (fk hs 0 rfl)) (rq apq (fr hs 84 rfl)) (kq apq (fk hs 63 rfl)) (by decide) ?_
  refine ex_iload_n ok_X11_resetAll (mi 44 rfl) rfl ?_
  refine ex_aaldx (n := 3) ok_X11_resetAll (mi 45 rfl) (by decide) (kq apq (fk hs 63 rfl)) (nq apq (fn hs 63 rfl)) (pk_in 4 12 (by decide)) (oq apq (fo ho 16 rfl)) (kq apq (fk hs 72 rfl)) (by decide) ?_
  refine ex_callVr (As := []) (v := none) (g1 := (ap x (W_X10_reset 876 ++ (W_X10_reset 874 ++ (W_X10_reset 872 ++ (W_X10_reset 870 ++ (W_X10_reset 868 ++ (W_X3_reset 0 (-1) 865 ++ (W_X3_reset 0 (-1) 863 ++ (W_X3_reset 0 (-1) 861 ++ (W_X3_reset 0 (-1) 859 ++ (W_X3_reset 0 (-1) 857 ++ (W_X3_reset 0 (-1) 855 ++ (W_X3_reset 2 0 853 ++ (W_X3_reset 2 0 851 ++ (W_X3_reset 2 0 849 ++ (W_X5_reset 837 ++ (W_X5_reset 826 ++ (W_X5_reset 815 ++ (W_X2_reset 811 ++ (W_X9_reset 808 ++ ([(2, 807, 0, 300, (nI 0))] ++ (W_X0_reset 1))))))))))))))))))))) h)) ok_X11_resetAll (mi 46 rfl) rfl (mA_X10_reset (ws := (W_X10_reset 874 ++ (W_X10_reset 872 ++ (W_X10_reset 870 ++ (W_X10_reset 868 ++ (W_X3_reset 0 (-1) 865 ++ (W_X3_reset 0 (-1) 863 ++ (W_X3_reset 0 (-1) 861 ++ (W_X3_reset 0 (-1) 859 ++ (W_X3_reset 0 (-1) 857 ++ (W_X3_reset 0 (-1) 855 ++ (W_X3_reset 2 0 853 ++ (W_X3_reset 2 0 851 ++ (W_X3_reset 2 0 849 ++ (W_X5_reset 837 ++ (W_X5_reset 826 ++ (W_X5_reset 815 ++ (W_X2_reset 811 ++ (W_X9_reset 808 ++ ([(2, 807, 0, 300, (nI 0))] ++ (W_X0_reset 1))))))))))))))))))))) hst (sh_sub 876 hs (by decide +kernel) (by decide +kernel))) rfl (kq apq (fk hs 72 rfl)) rfl rfl (by decide) (by decide) (Nat.le_of_ble_eq_true rfl) (by decide) ?_
  refine ex_iincx (w := (nI 5)) ok_X11_resetAll (mi 47 rfl) rfl (by decide) ?_
  refine ex_goto (tgt := 76) ok_X11_resetAll (mi 48 rfl) rfl ?_
  refine ex_ls (ls' := [(0, .ref x), (1, .int (nI 5))]) ⟨rfl, rfl, trivial⟩ ?_
  refine ex_iload_n ok_X11_resetAll (mi 39 rfl) rfl ?_
  refine ex_bipush ok_X11_resetAll (mi 40 rfl) ?_
  refine ex_icmp_ge (tgt := 97) ok_X11_resetAll (mi 41 rfl) rfl (fun hn => absurd hn (by decide)) (fun _ => ?_)
  refine ex_aload_n ok_X11_resetAll (mi 42 rfl) rfl ?_
  refine ex_getRx ok_X11_resetAll (mi 43 rfl) rfl rfl (kq apq (fk hs 0 rfl)) (rq apq (fr hs 84 rfl)) (kq apq (fk hs 63 rfl)) (by decide) ?_
  refine ex_iload_n ok_X11_resetAll (mi 44 rfl) rfl ?_
  refine ex_aaldx (n := 3) ok_X11_resetAll (mi 45 rfl) (by decide) (kq apq (fk hs 63 rfl)) (nq apq (fn hs 63 rfl)) (pk_in 5 12 (by decide)) (oq apq (fo ho 17 rfl)) (kq apq (fk hs 74 rfl)) (by decide) ?_
  refine ex_callVr (As := []) (v := none) (g1 := (ap x (W_X10_reset 878 ++ (W_X10_reset 876 ++ (W_X10_reset 874 ++ (W_X10_reset 872 ++ (W_X10_reset 870 ++ (W_X10_reset 868 ++ (W_X3_reset 0 (-1) 865 ++ (W_X3_reset 0 (-1) 863 ++ (W_X3_reset 0 (-1) 861 ++ (W_X3_reset 0 (-1) 859 ++ (W_X3_reset 0 (-1) 857 ++ (W_X3_reset 0 (-1) 855 ++ (W_X3_reset 2 0 853 ++ (W_X3_reset 2 0 851 ++ (W_X3_reset 2 0 849 ++ (W_X5_reset 837 ++ (W_X5_reset 826 ++ (W_X5_reset 815 ++ (W_X2_reset 811 ++ (W_X9_reset 808 ++ ([(2, 807, 0, 300, (nI 0))] ++ (W_X0_reset 1)))))))))))))))))))))) h)) ok_X11_resetAll (mi 46 rfl) rfl (mA_X10_reset (ws := (W_X10_reset 876 ++ (W_X10_reset 874 ++ (W_X10_reset 872 ++ (W_X10_reset 870 ++ (W_X10_reset 868 ++ (W_X3_reset 0 (-1) 865 ++ (W_X3_reset 0 (-1) 863 ++ (W_X3_reset 0 (-1) 861 ++ (W_X3_reset 0 (-1) 859 ++ (W_X3_reset 0 (-1) 857 ++ (W_X3_reset 0 (-1) 855 ++ (W_X3_reset 2 0 853 ++ (W_X3_reset 2 0 851 ++ (W_X3_reset 2 0 849 ++ (W_X5_reset 837 ++ (W_X5_reset 826 ++ (W_X5_reset 815 ++ (W_X2_reset 811 ++ (W_X9_reset 808 ++ ([(2, 807, 0, 300, (nI 0))] ++ (W_X0_reset 1)))))))))))))))))))))) hst (sh_sub 878 hs (by decide +kernel) (by decide +kernel))) rfl (kq apq (fk hs 74 rfl)) rfl rfl (by decide) (by decide) (Nat.le_of_ble_eq_true rfl) (by decide) ?_
  refine ex_iincx (w := (nI 6)) ok_X11_resetAll (mi 47 rfl) rfl (by decide) ?_
  refine ex_goto (tgt := 76) ok_X11_resetAll (mi 48 rfl) rfl ?_
  refine ex_ls (ls' := [(0, .ref x), (1, .int (nI 6))]) ⟨rfl, rfl, trivial⟩ ?_
  refine ex_iload_n ok_X11_resetAll (mi 39 rfl) rfl ?_
  refine ex_bipush ok_X11_resetAll (mi 40 rfl) ?_
  refine ex_icmp_ge (tgt := 97) ok_X11_resetAll (mi 41 rfl) rfl (fun hn => absurd hn (by decide)) (fun _ => ?_)
  refine ex_aload_n ok_X11_resetAll (mi 42 rfl) rfl ?_
  refine ex_getRx ok_X11_resetAll (mi 43 rfl) rfl rfl (kq apq (fk hs 0 rfl)) (rq apq (fr hs 84 rfl)) (kq apq (fk hs 63 rfl)) (by decide) ?_
  refine ex_iload_n ok_X11_resetAll (mi 44 rfl) rfl ?_
  refine ex_aaldx (n := 3) ok_X11_resetAll (mi 45 rfl) (by decide) (kq apq (fk hs 63 rfl)) (nq apq (fn hs 63 rfl)) (pk_in 6 12 (by decide)) (oq apq (fo ho 18 rfl)) (kq apq (fk hs 76 rfl)) (by decide) ?_
  refine ex_callVr (As := []) (v := none) (g1 := (ap x (W_X10_reset 880 ++ (W_X10_reset 878 ++ (W_X10_reset 876 ++ (W_X10_reset 874 ++ (W_X10_reset 872 ++ (W_X10_reset 870 ++ (W_X10_reset 868 ++ (W_X3_reset 0 (-1) 865 ++ (W_X3_reset 0 (-1) 863 ++ (W_X3_reset 0 (-1) 861 ++ (W_X3_reset 0 (-1) 859 ++ (W_X3_reset 0 (-1) 857 ++ (W_X3_reset 0 (-1) 855 ++ (W_X3_reset 2 0 853 ++ (W_X3_reset 2 0 851 ++ (W_X3_reset 2 0 849 ++ (W_X5_reset 837 ++ (W_X5_reset 826 ++ (W_X5_reset 815 ++ (W_X2_reset 811 ++ (W_X9_reset 808 ++ ([(2, 807, 0, 300, (nI 0))] ++ (W_X0_reset 1))))))))))))))))))))))) h)) ok_X11_resetAll (mi 46 rfl) rfl (mA_X10_reset (ws := (W_X10_reset 878 ++ (W_X10_reset 876 ++ (W_X10_reset 874 ++ (W_X10_reset 872 ++ (W_X10_reset 870 ++ (W_X10_reset 868 ++ (W_X3_reset 0 (-1) 865 ++ (W_X3_reset 0 (-1) 863 ++ (W_X3_reset 0 (-1) 861 ++ (W_X3_reset 0 (-1) 859 ++ (W_X3_reset 0 (-1) 857 ++ (W_X3_reset 0 (-1) 855 ++ (W_X3_reset 2 0 853 ++ (W_X3_reset 2 0 851 ++ (W_X3_reset 2 0 849 ++ (W_X5_reset 837 ++ (W_X5_reset 826 ++ (W_X5_reset 815 ++ (W_X2_reset 811 ++ (W_X9_reset 808 ++ ([(2, 807, 0, 300, (nI 0))] ++ (W_X0_reset 1))))))))))))))))))))))) hst (sh_sub 880 hs (by decide +kernel) (by decide +kernel))) rfl (kq apq (fk hs 76 rfl)) rfl rfl (by decide) (by decide) (Nat.le_of_ble_eq_true rfl) (by decide) ?_
  refine ex_iincx (w := (nI 7)) ok_X11_resetAll (mi 47 rfl) rfl (by decide) ?_
  refine ex_goto (tgt := 76) ok_X11_resetAll (mi 48 rfl) rfl ?_
  refine ex_ls (ls' := [(0, .ref x), (1, .int (nI 7))]) ⟨rfl, rfl, trivial⟩ ?_
  refine ex_iload_n ok_X11_resetAll (mi 39 rfl) rfl ?_
  refine ex_bipush ok_X11_resetAll (mi 40 rfl) ?_
  refine ex_icmp_ge (tgt := 97) ok_X11_resetAll (mi 41 rfl) rfl (fun hn => absurd hn (by decide)) (fun _ => ?_)
  refine ex_aload_n ok_X11_resetAll (mi 42 rfl) rfl ?_
  refine ex_getRx ok_X11_resetAll (mi 43 rfl) rfl rfl (kq apq (fk hs 0 rfl)) (rq apq (fr hs 84 rfl)) (kq apq (fk hs 63 rfl)) (by decide) ?_
  refine ex_iload_n ok_X11_resetAll (mi 44 rfl) rfl ?_
  refine ex_aaldx (n := 3) ok_X11_resetAll (mi 45 rfl) (by decide) (kq apq (fk hs 63 rfl)) (nq apq (fn hs 63 rfl)) (pk_in 7 12 (by decide)) (oq apq (fo ho 19 rfl)) (kq apq (fk hs 78 rfl)) (by decide) ?_
  refine ex_callVr (As := []) (v := none) (g1 := (ap x (W_X10_reset 882 ++ (W_X10_reset 880 ++ (W_X10_reset 878 ++ (W_X10_reset 876 ++ (W_X10_reset 874 ++ (W_X10_reset 872 ++ (W_X10_reset 870 ++ (W_X10_reset 868 ++ (W_X3_reset 0 (-1) 865 ++ (W_X3_reset 0 (-1) 863 ++ (W_X3_reset 0 (-1) 861 ++ (W_X3_reset 0 (-1) 859 ++ (W_X3_reset 0 (-1) 857 ++ (W_X3_reset 0 (-1) 855 ++ (W_X3_reset 2 0 853 ++ (W_X3_reset 2 0 851 ++ (W_X3_reset 2 0 849 ++ (W_X5_reset 837 ++ (W_X5_reset 826 ++ (W_X5_reset 815 ++ (W_X2_reset 811 ++ (W_X9_reset 808 ++ ([(2, 807, 0, 300, (nI 0))] ++ (W_X0_reset 1)))))))))))))))))))))))) h)) ok_X11_resetAll (mi 46 rfl) rfl (mA_X10_reset (ws := (W_X10_reset 880 ++ (W_X10_reset 878 ++ (W_X10_reset 876 ++ (W_X10_reset 874 ++ (W_X10_reset 872 ++ (W_X10_reset 870 ++ (W_X10_reset 868 ++ (W_X3_reset 0 (-1) 865 ++ (W_X3_reset 0 (-1) 863 ++ (W_X3_reset 0 (-1) 861 ++ (W_X3_reset 0 (-1) 859 ++ (W_X3_reset 0 (-1) 857 ++ (W_X3_reset 0 (-1) 855 ++ (W_X3_reset 2 0 853 ++ (W_X3_reset 2 0 851 ++ (W_X3_reset 2 0 849 ++ (W_X5_reset 837 ++ (W_X5_reset 826 ++ (W_X5_reset 815 ++ (W_X2_reset 811 ++ (W_X9_reset 808 ++ ([(2, 807, 0, 300, (nI 0))] ++ (W_X0_reset 1)))))))))))))))))))))))) hst (sh_sub 882 hs (by decide +kernel) (by decide +kernel))) rfl (kq apq (fk hs 78 rfl)) rfl rfl (by decide) (by decide) (Nat.le_of_ble_eq_true rfl) (by decide) ?_
  refine ex_iincx (w := (nI 8)) ok_X11_resetAll (mi 47 rfl) rfl (by decide) ?_
  refine ex_goto (tgt := 76) ok_X11_resetAll (mi 48 rfl) rfl ?_
  refine ex_ls (ls' := [(0, .ref x), (1, .int (nI 8))]) ⟨rfl, rfl, trivial⟩ ?_
  refine ex_iload_n ok_X11_resetAll (mi 39 rfl) rfl ?_
  refine ex_bipush ok_X11_resetAll (mi 40 rfl) ?_
  refine ex_icmp_ge (tgt := 97) ok_X11_resetAll (mi 41 rfl) rfl (fun hn => absurd hn (by decide)) (fun _ => ?_)
  refine ex_aload_n ok_X11_resetAll (mi 42 rfl) rfl ?_
  refine ex_getRx ok_X11_resetAll (mi 43 rfl) rfl rfl (kq apq (fk hs 0 rfl)) (rq apq (fr hs 84 rfl)) (kq apq (fk hs 63 rfl)) (by decide) ?_
  refine ex_iload_n ok_X11_resetAll (mi 44 rfl) rfl ?_
  refine ex_aaldx (n := 3) ok_X11_resetAll (mi 45 rfl) (by decide) (kq apq (fk hs 63 rfl)) (nq apq (fn hs 63 rfl)) (pk_in 8 12 (by decide)) (oq apq (fo ho 20 rfl)) (kq apq (fk hs 80 rfl)) (by decide) ?_
  refine ex_callVr (As := []) (v := none) (g1 := (ap x (W_X10_reset 884 ++ (W_X10_reset 882 ++ (W_X10_reset 880 ++ (W_X10_reset 878 ++ (W_X10_reset 876 ++ (W_X10_reset 874 ++ (W_X10_reset 872 ++ (W_X10_reset 870 ++ (W_X10_reset 868 ++ (W_X3_reset 0 (-1) 865 ++ (W_X3_reset 0 (-1) 863 ++ (W_X3_reset 0 (-1) 861 ++ (W_X3_reset 0 (-1) 859 ++ (W_X3_reset 0 (-1) 857 ++ (W_X3_reset 0 (-1) 855 ++ (W_X3_reset 2 0 853 ++ (W_X3_reset 2 0 851 ++ (W_X3_reset 2 0 849 ++ (W_X5_reset 837 ++ (W_X5_reset 826 ++ (W_X5_reset 815 ++ (W_X2_reset 811 ++ (W_X9_reset 808 ++ ([(2, 807, 0, 300, (nI 0))] ++ (W_X0_reset 1))))))))))))))))))))))))) h)) ok_X11_resetAll (mi 46 rfl) rfl (mA_X10_reset (ws := (W_X10_reset 882 ++ (W_X10_reset 880 ++ (W_X10_reset 878 ++ (W_X10_reset 876 ++ (W_X10_reset 874 ++ (W_X10_reset 872 ++ (W_X10_reset 870 ++ (W_X10_reset 868 ++ (W_X3_reset 0 (-1) 865 ++ (W_X3_reset 0 (-1) 863 ++ (W_X3_reset 0 (-1) 861 ++ (W_X3_reset 0 (-1) 859 ++ (W_X3_reset 0 (-1) 857 ++ (W_X3_reset 0 (-1) 855 ++ (W_X3_reset 2 0 853 ++ (W_X3_reset 2 0 851 ++ (W_X3_reset 2 0 849 ++ (W_X5_reset 837 ++ (W_X5_reset 826 ++ (W_X5_reset 815 ++ (W_X2_reset 811 ++ (W_X9_reset 808 ++ ([(2, 807, 0, 300, (nI 0))] ++ (W_X0_reset 1))))))))))))))))))))))))) hst (sh_sub 884 hs (by decide +kernel) (by decide +kernel))) rfl (kq apq (fk hs 80 rfl)) rfl rfl (by decide) (by decide) (Nat.le_of_ble_eq_true rfl) (by decide) ?_
  refine ex_iincx (w := (nI 9)) ok_X11_resetAll (mi 47 rfl) rfl (by decide) ?_
  refine ex_goto (tgt := 76) ok_X11_resetAll (mi 48 rfl) rfl ?_
  refine ex_ls (ls' := [(0, .ref x), (1, .int (nI 9))]) ⟨rfl, rfl, trivial⟩ ?_
  refine ex_iload_n ok_X11_resetAll (mi 39 rfl) rfl ?_
  refine ex_bipush ok_X11_resetAll (mi 40 rfl) ?_
  refine ex_icmp_ge (tgt := 97) ok_X11_resetAll (mi 41 rfl) rfl (fun hn => absurd hn (by decide)) (fun _ => ?_)
  refine ex_aload_n ok_X11_resetAll (mi 42 rfl) rfl ?_
  refine ex_getRx ok_X11_resetAll (mi 43 rfl) rfl rfl (kq apq (fk hs 0 rfl)) (rq apq (fr hs 84 rfl)) (kq apq (fk hs 63 rfl)) (by decide) ?_
  refine ex_iload_n ok_X11_resetAll (mi 44 rfl) rfl ?_
  refine ex_aaldx (n := 3) ok_X11_resetAll (mi 45 rfl) (by decide) (kq apq (fk hs 63 rfl)) (nq apq (fn hs 63 rfl)) (pk_in 9 12 (by decide)) (oq apq (fo ho 21 rfl)) (kq apq (fk hs 82 rfl)) (by decide) ?_
  refine ex_callVr (As := []) (v := none) (g1 := (ap x (W_X10_reset 886 ++ (W_X10_reset 884 ++ (W_X10_reset 882 ++ (W_X10_reset 880 ++ (W_X10_reset 878 ++ (W_X10_reset 876 ++ (W_X10_reset 874 ++ (W_X10_reset 872 ++ (W_X10_reset 870 ++ (W_X10_reset 868 ++ (W_X3_reset 0 (-1) 865 ++ (W_X3_reset 0 (-1) 863 ++ (W_X3_reset 0 (-1) 861 ++ (W_X3_reset 0 (-1) 859 ++ (W_X3_reset 0 (-1) 857 ++ (W_X3_reset 0 (-1) 855 ++ (W_X3_reset 2 0 853 ++ (W_X3_reset 2 0 851 ++ (W_X3_reset 2 0 849 ++ (W_X5_reset 837 ++ (W_X5_reset 826 ++ (W_X5_reset 815 ++ (W_X2_reset 811 ++ (W_X9_reset 808 ++ ([(2, 807, 0, 300, (nI 0))] ++ (W_X0_reset 1)))))))))))))))))))))))))) h)) ok_X11_resetAll (mi 46 rfl) rfl (mA_X10_reset (ws := (W_X10_reset 884 ++ (W_X10_reset 882 ++ (W_X10_reset 880 ++ (W_X10_reset 878 ++ (W_X10_reset 876 ++ (W_X10_reset 874 ++ (W_X10_reset 872 ++ (W_X10_reset 870 ++ (W_X10_reset 868 ++ (W_X3_reset 0 (-1) 865 ++ (W_X3_reset 0 (-1) 863 ++ (W_X3_reset 0 (-1) 861 ++ (W_X3_reset 0 (-1) 859 ++ (W_X3_reset 0 (-1) 857 ++ (W_X3_reset 0 (-1) 855 ++ (W_X3_reset 2 0 853 ++ (W_X3_reset 2 0 851 ++ (W_X3_reset 2 0 849 ++ (W_X5_reset 837 ++ (W_X5_reset 826 ++ (W_X5_reset 815 ++ (W_X2_reset 811 ++ (W_X9_reset 808 ++ ([(2, 807, 0, 300, (nI 0))] ++ (W_X0_reset 1)))))))))))))))))))))))))) hst (sh_sub 886 hs (by decide +kernel) (by decide +kernel))) rfl (kq apq (fk hs 82 rfl)) rfl rfl (by decide) (by decide) (Nat.le_of_ble_eq_true rfl) (by decide) ?_
  refine ex_iincx (w := (nI 10)) ok_X11_resetAll (mi 47 rfl) rfl (by decide) ?_
  refine ex_goto (tgt := 76) ok_X11_resetAll (mi 48 rfl) rfl ?_
  refine ex_ls (ls' := [(0, .ref x), (1, .int (nI 10))]) ⟨rfl, rfl, trivial⟩ ?_
  refine ex_iload_n ok_X11_resetAll (mi 39 rfl) rfl ?_
  refine ex_bipush ok_X11_resetAll (mi 40 rfl) ?_
  refine ex_icmp_ge (tgt := 97) ok_X11_resetAll (mi 41 rfl) rfl (fun hn => absurd hn (by decide)) (fun _ => ?_)
  refine ex_aload_n ok_X11_resetAll (mi 42 rfl) rfl ?_
  refine ex_getRx ok_X11_resetAll (mi 43 rfl) rfl rfl (kq apq (fk hs 0 rfl)) (rq apq (fr hs 84 rfl)) (kq apq (fk hs 63 rfl)) (by decide) ?_
  refine ex_iload_n ok_X11_resetAll (mi 44 rfl) rfl ?_
  refine ex_aaldx (n := 3) ok_X11_resetAll (mi 45 rfl) (by decide) (kq apq (fk hs 63 rfl)) (nq apq (fn hs 63 rfl)) (pk_in 10 12 (by decide)) (oq apq (fo ho 22 rfl)) (kq apq (fk hs 84 rfl)) (by decide) ?_
  refine ex_callVr (As := []) (v := none) (g1 := (ap x (W_X10_reset 888 ++ (W_X10_reset 886 ++ (W_X10_reset 884 ++ (W_X10_reset 882 ++ (W_X10_reset 880 ++ (W_X10_reset 878 ++ (W_X10_reset 876 ++ (W_X10_reset 874 ++ (W_X10_reset 872 ++ (W_X10_reset 870 ++ (W_X10_reset 868 ++ (W_X3_reset 0 (-1) 865 ++ (W_X3_reset 0 (-1) 863 ++ (W_X3_reset 0 (-1) 861 ++ (W_X3_reset 0 (-1) 859 ++ (W_X3_reset 0 (-1) 857 ++ (W_X3_reset 0 (-1) 855 ++ (W_X3_reset 2 0 853 ++ (W_X3_reset 2 0 851 ++ (W_X3_reset 2 0 849 ++ (W_X5_reset 837 ++ (W_X5_reset 826 ++ (W_X5_reset 815 ++ (W_X2_reset 811 ++ (W_X9_reset 808 ++ ([(2, 807, 0, 300, (nI 0))] ++ (W_X0_reset 1))))))))))))))))))))))))))) h)) ok_X11_resetAll (mi 46 rfl) rfl (mA_X10_reset (ws := (W_X10_reset 886 ++ (W_X10_reset 884 ++ (W_X10_reset 882 ++ (W_X10_reset 880 ++ (W_X10_reset 878 ++ (W_X10_reset 876 ++ (W_X10_reset 874 ++ (W_X10_reset 872 ++ (W_X10_reset 870 ++ (W_X10_reset 868 ++ (W_X3_reset 0 (-1) 865 ++ (W_X3_reset 0 (-1) 863 ++ (W_X3_reset 0 (-1) 861 ++ (W_X3_reset 0 (-1) 859 ++ (W_X3_reset 0 (-1) 857 ++ (W_X3_reset 0 (-1) 855 ++ (W_X3_reset 2 0 853 ++ (W_X3_reset 2 0 851 ++ (W_X3_reset 2 0 849 ++ (W_X5_reset 837 ++ (W_X5_reset 826 ++ (W_X5_reset 815 ++ (W_X2_reset 811 ++ (W_X9_reset 808 ++ ([(2, 807, 0, 300, (nI 0))] ++ (W_X0_reset 1))))))))))))))))))))))))))) hst (sh_sub 888 hs (by decide +kernel) (by decide +kernel))) rfl (kq apq (fk hs 84 rfl)) rfl rfl (by decide) (by decide) (Nat.le_of_ble_eq_true rfl) (by decide) ?_
  refine ex_iincx (w := (nI 11)) ok_X11_resetAll (mi 47 rfl) rfl (by decide) ?_
  refine ex_goto (tgt := 76) ok_X11_resetAll (mi 48 rfl) rfl ?_
  refine ex_ls (ls' := [(0, .ref x), (1, .int (nI 11))]) ⟨rfl, rfl, trivial⟩ ?_
  refine ex_iload_n ok_X11_resetAll (mi 39 rfl) rfl ?_
  refine ex_bipush ok_X11_resetAll (mi 40 rfl) ?_
  refine ex_icmp_ge (tgt := 97) ok_X11_resetAll (mi 41 rfl) rfl (fun hn => absurd hn (by decide)) (fun _ => ?_)
  refine ex_aload_n ok_X11_resetAll (mi 42 rfl) rfl ?_
  refine ex_getRx ok_X11_resetAll (mi 43 rfl) rfl rfl (kq apq (fk hs 0 rfl)) (rq apq (fr hs 84 rfl)) (kq apq (fk hs 63 rfl)) (by decide) ?_
  refine ex_iload_n ok_X11_resetAll (mi 44 rfl) rfl ?_
  refine ex_aaldx (n := 3) ok_X11_resetAll (mi 45 rfl) (by decide) (kq apq (fk hs 63 rfl)) (nq apq (fn hs 63 rfl)) (pk_in 11 12 (by decide)) (oq apq (fo ho 23 rfl)) (kq apq (fk hs 86 rfl)) (by decide) ?_
  refine ex_callVr (As := []) (v := none) (g1 := (ap x (W_X10_reset 890 ++ (W_X10_reset 888 ++ (W_X10_reset 886 ++ (W_X10_reset 884 ++ (W_X10_reset 882 ++ (W_X10_reset 880 ++ (W_X10_reset 878 ++ (W_X10_reset 876 ++ (W_X10_reset 874 ++ (W_X10_reset 872 ++ (W_X10_reset 870 ++ (W_X10_reset 868 ++ (W_X3_reset 0 (-1) 865 ++ (W_X3_reset 0 (-1) 863 ++ (W_X3_reset 0 (-1) 861 ++ (W_X3_reset 0 (-1) 859 ++ (W_X3_reset 0 (-1) 857 ++ (W_X3_reset 0 (-1) 855 ++ (W_X3_reset 2 0 853 ++ (W_X3_reset 2 0 851 ++ (W_X3_reset 2 0 849 ++ (W_X5_reset 837 ++ (W_X5_reset 826 ++ (W_X5_reset 815 ++ (W_X2_reset 811 ++ (W_X9_reset 808 ++ ([(2, 807, 0, 300, (nI 0))] ++ (W_X0_reset 1)))))))))))))))))))))))))))) h)) ok_X11_resetAll (mi 46 rfl) rfl (mA_X10_reset (ws := (W_X10_reset 888 ++ (W_X10_reset 886 ++ (W_X10_reset 884 ++ (W_X10_reset 882 ++ (W_X10_reset 880 ++ (W_X10_reset 878 ++ (W_X10_reset 876 ++ (W_X10_reset 874 ++ (W_X10_reset 872 ++ (W_X10_reset 870 ++ (W_X10_reset 868 ++ (W_X3_reset 0 (-1) 865 ++ (W_X3_reset 0 (-1) 863 ++ (W_X3_reset 0 (-1) 861 ++ (W_X3_reset 0 (-1) 859 ++ (W_X3_reset 0 (-1) 857 ++ (W_X3_reset 0 (-1) 855 ++ (W_X3_reset 2 0 853 ++ (W_X3_reset 2 0 851 ++ (W_X3_reset 2 0 849 ++ (W_X5_reset 837 ++ (W_X5_reset 826 ++ (W_X5_reset 815 ++ (W_X2_reset 811 ++ (W_X9_reset 808 ++ ([(2, 807, 0, 300, (nI 0))] ++ (W_X0_reset 1)))))))))))))))))))))))))))) hst (sh_sub 890 hs (by decide +kernel) (by decide +kernel))) rfl (kq apq (fk hs 86 rfl)) rfl rfl (by decide) (by decide) (Nat.le_of_ble_eq_true rfl) (by decide) ?_
  refine ex_iincx (w := (nI 12)) ok_X11_resetAll (mi 47 rfl) rfl (by decide) ?_
  refine ex_goto (tgt := 76) ok_X11_resetAll (mi 48 rfl) rfl ?_
  refine ex_ls (ls' := [(0, .ref x), (1, .int (nI 12))]) ⟨rfl, rfl, trivial⟩ ?_
  refine ex_iload_n ok_X11_resetAll (mi 39 rfl) rfl ?_
  refine ex_bipush ok_X11_resetAll (mi 40 rfl) ?_
  refine ex_icmp_ge (tgt := 97) ok_X11_resetAll (mi 41 rfl) rfl (fun _ => ?_) (fun hn => absurd (by decide) hn)
  refine ex_iconst ok_X11_resetAll (mi 49 rfl) ?_
  refine ex_istore_n ok_X11_resetAll (mi 50 rfl) ?_
  refine ex_iload_n ok_X11_resetAll (mi 51 rfl) rfl ?_
  refine ex_iconst ok_X11_resetAll (mi 52 rfl) ?_
  refine ex_icmp_ge (tgt := 124) ok_X11_resetAll (mi 53 rfl) rfl (fun hn => absurd hn (by decide)) (fun _ => ?_)
  refine ex_aload_n ok_X11_resetAll (mi 54 rfl) rfl ?_
  refine ex_getRx ok_X11_resetAll (mi 55 rfl) rfl rfl (kq apq (fk hs 0 rfl)) (rq apq (fr hs 12 rfl)) (kq apq (fk hs 9 rfl)) (by decide) ?_
  refine ex_iload_n ok_X11_resetAll (mi 56 rfl) rfl ?_
  refine ex_iconst ok_X11_resetAll (mi 57 rfl) ?_
  refine ex_iload_n ok_X11_resetAll (mi 58 rfl) rfl ?_
  refine ex_callSr (As := [_]) (v := some (.int (nI 3))) (g1 := (ap x (W_X10_reset 890 ++ (W_X10_reset 888 ++ (W_X10_reset 886 ++ (W_X10_reset 884 ++ (W_X10_reset 882 ++ (W_X10_reset 880 ++ (W_X10_reset 878 ++ (W_X10_reset 876 ++ (W_X10_reset 874 ++ (W_X10_reset 872 ++ (W_X10_reset 870 ++ (W_X10_reset 868 ++ (W_X3_reset 0 (-1) 865 ++ (W_X3_reset 0 (-1) 863 ++ (W_X3_reset 0 (-1) 861 ++ (W_X3_reset 0 (-1) 859 ++ (W_X3_reset 0 (-1) 857 ++ (W_X3_reset 0 (-1) 855 ++ (W_X3_reset 2 0 853 ++ (W_X3_reset 2 0 851 ++ (W_X3_reset 2 0 849 ++ (W_X5_reset 837 ++ (W_X5_reset 826 ++ (W_X5_reset 815 ++ (W_X2_reset 811 ++ (W_X9_reset 808 ++ ([(2, 807, 0, 300, (nI 0))] ++ (W_X0_reset 1)))))))))))))))))))))))))))) h)) ok_X11_resetAll (mi 59 rfl) rfl ?c rfl rfl rfl (by decide) (Nat.le_of_ble_eq_true rfl) (by decide) ?_
  case c =>
    refine ex_M_of ok_X11_nodesOf cw_X11_nodesOf rfl hst (Nat.le_of_ble_eq_true rfl) ?_
    refine ex_iload_n ok_X11_nodesOf (mi 0 rfl) rfl ?_
    refine ex_tblk (tgt := 32) ok_X11_nodesOf (mi 1 rfl) (by decide) (by decide) (by decide) (by decide) ?_
    refine ex_iconst ok_X11_nodesOf (mi 2 rfl) ?_
    refine ex_iret ok_X11_nodesOf (mi 3 rfl) rfl ?_
    exact ⟨inlI (by decide), rfl⟩
  refine ex_ishl ok_X11_resetAll (mi 60 rfl) ?_
  refine ex_top (w := (nI 8)) (by decide) ?_
  refine ex_iconst ok_X11_resetAll (mi 61 rfl) ?_
  refine ex_isub ok_X11_resetAll (mi 62 rfl) ?_
  refine ex_top (w := (nI 7)) (by decide) ?_
  refine ex_iasta (a := 813) (j := 0) (v := (nI 7)) ok_X11_resetAll (mi 63 rfl) (fk hs 9 rfl) (fn hs 9 rfl) (pk_in 0 4 (by decide)) (by decide) (by decide) ?_
  refine ex_iincx (w := (nI 1)) ok_X11_resetAll (mi 64 rfl) rfl (by decide) ?_
  refine ex_goto (tgt := 99) ok_X11_resetAll (mi 65 rfl) rfl ?_
  refine ex_ls (ls' := [(0, .ref x), (1, .int (nI 1))]) ⟨rfl, rfl, trivial⟩ ?_
  refine ex_iload_n ok_X11_resetAll (mi 51 rfl) rfl ?_
  refine ex_iconst ok_X11_resetAll (mi 52 rfl) ?_
  refine ex_icmp_ge (tgt := 124) ok_X11_resetAll (mi 53 rfl) rfl (fun hn => absurd hn (by decide)) (fun _ => ?_)
  refine ex_aload_n ok_X11_resetAll (mi 54 rfl) rfl ?_
  refine ex_getRx ok_X11_resetAll (mi 55 rfl) rfl rfl (kq apq (fk hs 0 rfl)) (rq apq (fr hs 12 rfl)) (kq apq (fk hs 9 rfl)) (by decide) ?_
  refine ex_iload_n ok_X11_resetAll (mi 56 rfl) rfl ?_
  refine ex_iconst ok_X11_resetAll (mi 57 rfl) ?_
  refine ex_iload_n ok_X11_resetAll (mi 58 rfl) rfl ?_
  refine ex_callSr (As := [_]) (v := some (.int (nI 9))) (g1 := (ap x ([(1, 813, 0, 0, (nI 7))] ++ (W_X10_reset 890 ++ (W_X10_reset 888 ++ (W_X10_reset 886 ++ (W_X10_reset 884 ++ (W_X10_reset 882 ++ (W_X10_reset 880 ++ (W_X10_reset 878 ++ (W_X10_reset 876 ++ (W_X10_reset 874 ++ (W_X10_reset 872 ++ (W_X10_reset 870 ++ (W_X10_reset 868 ++ (W_X3_reset 0 (-1) 865 ++ (W_X3_reset 0 (-1) 863 ++ (W_X3_reset 0 (-1) 861 ++ (W_X3_reset 0 (-1) 859 ++ (W_X3_reset 0 (-1) 857 ++ (W_X3_reset 0 (-1) 855 ++ (W_X3_reset 2 0 853 ++ (W_X3_reset 2 0 851 ++ (W_X3_reset 2 0 849 ++ (W_X5_reset 837 ++ (W_X5_reset 826 ++ (W_X5_reset 815 ++ (W_X2_reset 811 ++ (W_X9_reset 808 ++ ([(2, 807, 0, 300, (nI 0))] ++ (W_X0_reset 1))))))))))))))))))))))))))))) h)) ok_X11_resetAll (mi 59 rfl) rfl ?c rfl rfl rfl (by decide) (Nat.le_of_ble_eq_true rfl) (by decide) ?_
  case c =>
    refine ex_M_of ok_X11_nodesOf cw_X11_nodesOf rfl hst (Nat.le_of_ble_eq_true rfl) ?_
    refine ex_iload_n ok_X11_nodesOf (mi 0 rfl) rfl ?_
    refine ex_tblk (tgt := 34) ok_X11_nodesOf (mi 1 rfl) (by decide) (by decide) (by decide) (by decide) ?_
    refine ex_bipush ok_X11_nodesOf (mi 4 rfl) ?_
    refine ex_iret ok_X11_nodesOf (mi 5 rfl) rfl ?_
    exact ⟨inlI (by decide), rfl⟩
  refine ex_ishl ok_X11_resetAll (mi 60 rfl) ?_
  refine ex_top (w := (nI 512)) (by decide) ?_
  refine ex_iconst ok_X11_resetAll (mi 61 rfl) ?_
  refine ex_isub ok_X11_resetAll (mi 62 rfl) ?_
  refine ex_top (w := (nI 511)) (by decide) ?_
  refine ex_iasta (a := 813) (j := 1) (v := (nI 511)) ok_X11_resetAll (mi 63 rfl) (fk hs 9 rfl) (fn hs 9 rfl) (pk_in 1 4 (by decide)) (by decide) (by decide) ?_
  refine ex_iincx (w := (nI 2)) ok_X11_resetAll (mi 64 rfl) rfl (by decide) ?_
  refine ex_goto (tgt := 99) ok_X11_resetAll (mi 65 rfl) rfl ?_
  refine ex_ls (ls' := [(0, .ref x), (1, .int (nI 2))]) ⟨rfl, rfl, trivial⟩ ?_
  refine ex_iload_n ok_X11_resetAll (mi 51 rfl) rfl ?_
  refine ex_iconst ok_X11_resetAll (mi 52 rfl) ?_
  refine ex_icmp_ge (tgt := 124) ok_X11_resetAll (mi 53 rfl) rfl (fun hn => absurd hn (by decide)) (fun _ => ?_)
  refine ex_aload_n ok_X11_resetAll (mi 54 rfl) rfl ?_
  refine ex_getRx ok_X11_resetAll (mi 55 rfl) rfl rfl (kq apq (fk hs 0 rfl)) (rq apq (fr hs 12 rfl)) (kq apq (fk hs 9 rfl)) (by decide) ?_
  refine ex_iload_n ok_X11_resetAll (mi 56 rfl) rfl ?_
  refine ex_iconst ok_X11_resetAll (mi 57 rfl) ?_
  refine ex_iload_n ok_X11_resetAll (mi 58 rfl) rfl ?_
  refine ex_callSr (As := [_]) (v := some (.int (nI 12))) (g1 := (ap x ([(1, 813, 1, 0, (nI 511))] ++ ([(1, 813, 0, 0, (nI 7))] ++ (W_X10_reset 890 ++ (W_X10_reset 888 ++ (W_X10_reset 886 ++ (W_X10_reset 884 ++ (W_X10_reset 882 ++ (W_X10_reset 880 ++ (W_X10_reset 878 ++ (W_X10_reset 876 ++ (W_X10_reset 874 ++ (W_X10_reset 872 ++ (W_X10_reset 870 ++ (W_X10_reset 868 ++ (W_X3_reset 0 (-1) 865 ++ (W_X3_reset 0 (-1) 863 ++ (W_X3_reset 0 (-1) 861 ++ (W_X3_reset 0 (-1) 859 ++ (W_X3_reset 0 (-1) 857 ++ (W_X3_reset 0 (-1) 855 ++ (W_X3_reset 2 0 853 ++ (W_X3_reset 2 0 851 ++ (W_X3_reset 2 0 849 ++ (W_X5_reset 837 ++ (W_X5_reset 826 ++ (W_X5_reset 815 ++ (W_X2_reset 811 ++ (W_X9_reset 808 ++ ([(2, 807, 0, 300, (nI 0))] ++ (W_X0_reset 1)))))))))))))))))))))))))))))) h)) ok_X11_resetAll (mi 59 rfl) rfl ?c rfl rfl rfl (by decide) (Nat.le_of_ble_eq_true rfl) (by decide) ?_
  case c =>
    refine ex_M_of ok_X11_nodesOf cw_X11_nodesOf rfl hst (Nat.le_of_ble_eq_true rfl) ?_
    refine ex_iload_n ok_X11_nodesOf (mi 0 rfl) rfl ?_
    refine ex_tblk (tgt := 37) ok_X11_nodesOf (mi 1 rfl) (by decide) (by decide) (by decide) (by decide) ?_
    refine ex_bipush ok_X11_nodesOf (mi 6 rfl) ?_
    refine ex_iret ok_X11_nodesOf (mi 7 rfl) rfl ?_
    exact ⟨inlI (by decide), rfl⟩
  refine ex_ishl ok_X11_resetAll (mi 60 rfl) ?_
  refine ex_top (w := (nI 4096)) (by decide) ?_
  refine ex_iconst ok_X11_resetAll (mi 61 rfl) ?_
  refine ex_isub ok_X11_resetAll (mi 62 rfl) ?_
  refine ex_top (w := (nI 4095)) (by decide) ?_
  refine ex_iasta (a := 813) (j := 2) (v := (nI 4095)) ok_X11_resetAll (mi 63 rfl) (fk hs 9 rfl) (fn hs 9 rfl) (pk_in 2 4 (by decide)) (by decide) (by decide) ?_
  refine ex_iincx (w := (nI 3)) ok_X11_resetAll (mi 64 rfl) rfl (by decide) ?_
  refine ex_goto (tgt := 99) ok_X11_resetAll (mi 65 rfl) rfl ?_
  refine ex_ls (ls' := [(0, .ref x), (1, .int (nI 3))]) ⟨rfl, rfl, trivial⟩ ?_
  refine ex_iload_n ok_X11_resetAll (mi 51 rfl) rfl ?_
  refine ex_iconst ok_X11_resetAll (mi 52 rfl) ?_
  refine ex_icmp_ge (tgt := 124) ok_X11_resetAll (mi 53 rfl) rfl (fun hn => absurd hn (by decide)) (fun _ => ?_)
  refine ex_aload_n ok_X11_resetAll (mi 54 rfl) rfl ?_
  refine ex_getRx ok_X11_resetAll (mi 55 rfl) rfl rfl (kq apq (fk hs 0 rfl)) (rq apq (fr hs 12 rfl)) (kq apq (fk hs 9 rfl)) (by decide) ?_
  refine ex_iload_n ok_X11_resetAll (mi 56 rfl) rfl ?_
  refine ex_iconst ok_X11_resetAll (mi 57 rfl) ?_
  refine ex_iload_n ok_X11_resetAll (mi 58 rfl) rfl ?_
  refine ex_callSr (As := [_]) (v := some (.int (nI 3))) (g1 := (ap x ([(1, 813, 2, 0, (nI 4095))] ++ ([(1, 813, 1, 0, (nI 511))] ++ ([(1, 813, 0, 0, (nI 7))] ++ (W_X10_reset 890 ++ (W_X10_reset 888 ++ (W_X10_reset 886 ++ (W_X10_reset 884 ++ (W_X10_reset 882 ++ (W_X10_reset 880 ++ (W_X10_reset 878 ++ (W_X10_reset 876 ++ (W_X10_reset 874 ++ (W_X10_reset 872 ++ (W_X10_reset 870 ++ (W_X10_reset 868 ++ (W_X3_reset 0 (-1) 865 ++ (W_X3_reset 0 (-1) 863 ++ (W_X3_reset 0 (-1) 861 ++ (W_X3_reset 0 (-1) 859 ++ (W_X3_reset 0 (-1) 857 ++ (W_X3_reset 0 (-1) 855 ++ (W_X3_reset 2 0 853 ++ (W_X3_reset 2 0 851 ++ (W_X3_reset 2 0 849 ++ (W_X5_reset 837 ++ (W_X5_reset 826 ++ (W_X5_reset 815 ++ (W_X2_reset 811 ++ (W_X9_reset 808 ++ ([(2, 807, 0, 300, (nI 0))] ++ (W_X0_reset 1))))))))))))))))))))))))))))))) h)) ok_X11_resetAll (mi 59 rfl) rfl ?c rfl rfl rfl (by decide) (Nat.le_of_ble_eq_true rfl) (by decide) ?_
  case c =>
    refine ex_M_of ok_X11_nodesOf cw_X11_nodesOf rfl hst (Nat.le_of_ble_eq_true rfl) ?_
    refine ex_iload_n ok_X11_nodesOf (mi 0 rfl) rfl ?_
    refine ex_tblk (tgt := 40) ok_X11_nodesOf (mi 1 rfl) (by decide) (by decide) (by decide) (by decide) ?_
    refine ex_iconst ok_X11_nodesOf (mi 8 rfl) ?_
    refine ex_iret ok_X11_nodesOf (mi 9 rfl) rfl ?_
    exact ⟨inlI (by decide), rfl⟩
  refine ex_ishl ok_X11_resetAll (mi 60 rfl) ?_
  refine ex_top (w := (nI 8)) (by decide) ?_
  refine ex_iconst ok_X11_resetAll (mi 61 rfl) ?_
  refine ex_isub ok_X11_resetAll (mi 62 rfl) ?_
  refine ex_top (w := (nI 7)) (by decide) ?_
  refine ex_iasta (a := 813) (j := 3) (v := (nI 7)) ok_X11_resetAll (mi 63 rfl) (fk hs 9 rfl) (fn hs 9 rfl) (pk_in 3 4 (by decide)) (by decide) (by decide) ?_
  refine ex_iincx (w := (nI 4)) ok_X11_resetAll (mi 64 rfl) rfl (by decide) ?_
  refine ex_goto (tgt := 99) ok_X11_resetAll (mi 65 rfl) rfl ?_
  refine ex_ls (ls' := [(0, .ref x), (1, .int (nI 4))]) ⟨rfl, rfl, trivial⟩ ?_
  refine ex_iload_n ok_X11_resetAll (mi 51 rfl) rfl ?_
  refine ex_iconst ok_X11_resetAll (mi 52 rfl) ?_
  refine ex_icmp_ge (tgt := 124) ok_X11_resetAll (mi 53 rfl) rfl (fun _ => ?_) (fun hn => absurd (by decide) hn)
  refine ex_aload_n ok_X11_resetAll (mi 66 rfl) rfl ?_
  refine ex_iconst ok_X11_resetAll (mi 67 rfl) ?_
  refine ex_putIa (a := 0) (v := (nI 0)) ok_X11_resetAll (mi 68 rfl) rfl rfl (fk hs 0 rfl) (by decide) ?_
  refine ex_aload_n ok_X11_resetAll (mi 69 rfl) rfl ?_
  refine ex_iconst ok_X11_resetAll (mi 70 rfl) ?_
  refine ex_putIa (a := 0) (v := (nI 0)) ok_X11_resetAll (mi 71 rfl) rfl rfl (fk hs 0 rfl) (by decide) ?_
  refine ex_vret ok_X11_resetAll (mi 72 rfl) rfl ?_
  exact ⟨rfl, rfl⟩
/-! the fresh object: every field and row -/
def IF : List (Nat × Nat × Int32) := [(815, 500, nI 0), (818, 400, nI 0), (820, 800, nI 0), (826, 500, nI 1), (829, 400, nI 1), (831, 800, nI 1), (837, 500, nI 2), (840, 400, nI 2), (842, 800, nI 2), (849, 300, nI 0), (851, 300, nI 1), (853, 300, nI 2), (855, 300, nI 3), (857, 300, nI 4), (859, 300, nI 5), (861, 300, nI 6), (863, 300, nI 7), (865, 300, nI 8), (868, 1000, nI 0), (870, 1000, nI 1), (872, 1000, nI 2), (874, 1000, nI 3), (876, 1000, nI 4), (878, 1000, nI 5), (880, 1000, nI 6), (882, 1000, nI 7), (884, 1000, nI 8), (886, 1000, nI 9), (888, 1000, nI 10), (890, 1000, nI 11), (1, 3, nI 0), (1, 4, nI 0), (1, 5, nI 0), (1, 6, nI 0), (808, 903, nI 0), (808, 904, nI 0), (811, 202, nI 0), (815, 506, nI 0), (815, 507, -1), (815, 508, nI 0), (818, 402, nI 0), (818, 403, nI 7), (818, 404, nI 0), (818, 405, -1), (818, 406, nI 0), (818, 407, nI 0), (818, 408, nI 0), (818, 410, -1), (818, 411, nI 0), (815, 509, nI 0), (815, 510, nI 0), (815, 512, nI 0), (815, 513, nI 0), (815, 515, nI 0), (815, 516, nI 0), (825, 100, nI 0), (825, 101, nI 0), (825, 102, nI 0), (825, 103, nI 0), (825, 104, nI 0), (825, 105, nI 0), (826, 506, nI 0), (826, 507, -1), (826, 508, nI 0), (829, 402, nI 0), (829, 403, nI 7), (829, 404, nI 0), (829, 405, -1), (829, 406, nI 0), (829, 407, nI 0), (829, 408, nI 0), (829, 410, -1), (829, 411, nI 0), (826, 509, nI 0), (826, 510, nI 0), (826, 512, nI 0), (826, 513, nI 0), (826, 515, nI 0), (826, 516, nI 0), (836, 100, nI 0), (836, 101, nI 0), (836, 102, nI 0), (836, 103, nI 0), (836, 104, nI 0), (836, 105, nI 0), (837, 506, nI 0), (837, 507, -1), (837, 508, nI 0), (840, 402, nI 0), (840, 403, nI 7), (840, 404, nI 0), (840, 405, -1), (840, 406, nI 0), (840, 407, nI 0), (840, 408, nI 0), (840, 410, -1), (840, 411, nI 0), (837, 509, nI 0), (837, 510, nI 0), (837, 512, nI 0), (837, 513, nI 0), (837, 515, nI 0), (837, 516, nI 0), (847, 100, nI 0), (847, 101, nI 0), (847, 102, nI 0), (847, 103, nI 0), (847, 104, nI 0), (847, 105, nI 0), (849, 303, nI 2), (849, 304, nI 0), (849, 305, nI 0), (849, 306, nI 0), (849, 308, -1), (849, 309, -1), (849, 310, nI 0), (849, 311, nI 0), (851, 303, nI 2), (851, 304, nI 0), (851, 305, nI 0), (851, 306, nI 0), (851, 308, -1), (851, 309, -1), (851, 310, nI 0), (851, 311, nI 0), (853, 303, nI 2), (853, 304, nI 0), (853, 305, nI 0), (853, 306, nI 0), (853, 308, -1), (853, 309, -1), (853, 310, nI 0), (853, 311, nI 0), (855, 303, nI 0), (855, 304, -1), (855, 305, nI 0), (855, 306, nI 0), (855, 308, -1), (855, 309, -1), (855, 310, nI 0), (855, 311, nI 0), (857, 303, nI 0), (857, 304, -1), (857, 305, nI 0), (857, 306, nI 0), (857, 308, -1), (857, 309, -1), (857, 310, nI 0), (857, 311, nI 0), (859, 303, nI 0), (859, 304, -1), (859, 305, nI 0), (859, 306, nI 0), (859, 308, -1), (859, 309, -1), (859, 310, nI 0), (859, 311, nI 0), (861, 303, nI 0), (861, 304, -1), (861, 305, nI 0), (861, 306, nI 0), (861, 308, -1), (861, 309, -1), (861, 310, nI 0), (861, 311, nI 0), (863, 303, nI 0), (863, 304, -1), (863, 305, nI 0), (863, 306, nI 0), (863, 308, -1), (863, 309, -1), (863, 310, nI 0), (863, 311, nI 0), (865, 303, nI 0), (865, 304, -1), (865, 305, nI 0), (865, 306, nI 0), (865, 308, -1), (865, 309, -1), (865, 310, nI 0), (865, 311, nI 0), (868, 1003, -1), (868, 1004, nI 0), (870, 1003, -1), (870, 1004, nI 0), (872, 1003, -1), (872, 1004, nI 0), (874, 1003, -1), (874, 1004, nI 0), (876, 1003, -1), (876, 1004, nI 0), (878, 1003, -1), (878, 1004, nI 0), (880, 1003, -1), (880, 1004, nI 0), (882, 1003, -1), (882, 1004, nI 0), (884, 1003, -1), (884, 1004, nI 0), (886, 1003, -1), (886, 1004, nI 0), (888, 1003, -1), (888, 1004, nI 0), (890, 1003, -1), (890, 1004, nI 0), (0, 1108, nI 0), (0, 1109, nI 0)]
def AF : List (Nat × Nat × Int32) := [(807, 300, nI 0), (810, 16, -1), (812, 48, -1), (819, 10, nI 0), (816, 10, nI 0), (817, 16, -1), (821, 16, nI 0), (822, 16, -1), (823, 16, nI 0), (824, 16, nI 0), (830, 10, nI 0), (827, 10, nI 0), (828, 16, -1), (832, 16, nI 0), (833, 16, -1), (834, 16, nI 0), (835, 16, nI 0), (841, 10, nI 0), (838, 10, nI 0), (839, 16, -1), (843, 16, nI 0), (844, 16, -1), (845, 16, nI 0), (846, 16, nI 0), (850, 10, nI 0), (852, 10, nI 0), (854, 10, nI 0), (856, 10, nI 0), (858, 10, nI 0), (860, 10, nI 0), (862, 10, nI 0), (864, 10, nI 0), (866, 10, nI 0), (869, 16, -1), (871, 16, -1), (873, 16, -1), (875, 16, -1), (877, 16, -1), (879, 16, -1), (881, 16, -1), (883, 16, -1), (885, 16, -1), (887, 16, -1), (889, 16, -1), (891, 16, -1)]
def EF : List (Nat × Nat × Int32) := [(813, 0, nI 7), (813, 1, nI 511), (813, 2, nI 4095), (813, 3, nI 7)]
def TM : List (Nat × Nat × Nat) × List (Nat × Nat × Nat) := ([(3, 7, 0), (5, 7, 0), (7, 7, 0), (805, 7, 0), (4, 50, 16), (6, 50, 16), (8, 50, 16), (806, 50, 16)], [(3, 608, 4), (5, 608, 6), (7, 608, 8), (805, 608, 806)])
def OM : List (Nat × Nat × Nat) := [(2, 0, 3), (2, 1, 5), (2, 2, 7)]
def TF : List (Nat × Nat × Nat) × List (Nat × Nat × Nat) := (T11.1 ++ TM.1, T11.2 ++ TM.2)
def FR (h : GT) (x : Nat) : Prop := sh TF h x ∧ tO (O11 ++ OM) h x ∧ tI IF h x ∧ tA AF h x ∧ tE EF h x
theorem tI_sub {I I0 : List (Nat × Nat × Int32)} {g : GT} {x : Nat} (h : tI I0 g x) (hs : ∀ q ∈ I, q ∈ I0) : tI I g x := fun q hq => h q (hs q hq)
theorem FR_WR {h : GT} {x : Nat} (hs : sh TF h x) (ho : tO (O11 ++ OM) h x) (hi : tI I11 h x) : FR (ap x WR h) x :=
  ⟨shq apq hs, fun q hq => oq apq (ho q hq), ap_tI hi (by decide +kernel), ap_tA (by decide +kernel), ap_tE (by decide +kernel)⟩
theorem T6_row {h : GT} {x b : Nat} (m : sh T6 h b) (e : b = x) : gx_K h x = 7 ∧ gx_N h x = 0 ∧ gx_K h (x + 1) = 50 ∧ gx_N h (x + 1) = 16 ∧ gx_R h 608 x = x + 1 := by
  subst e
  exact ⟨sh_k m 0 rfl, sh_n m 0 rfl, sh_k m 1 rfl, sh_n m 1 rfl, sh_r m 0 rfl⟩
theorem ST_TM {g0 h : GT} {x : Nat} (s : ST g0 h x 892 402 T11 O11 I11) : sh TF h x ∧ tO (O11 ++ OM) h x := by
  obtain ⟨-, s2, s3, -, -, -, s6, s7, -⟩ := s
  have m0 := T6_row (x := x + 3) (s7 0 (by decide) (by decide)) (by omega)
  have m1 := T6_row (x := x + 5) (s7 1 (by decide) (by decide)) (by omega)
  have m2 := T6_row (x := x + 7) (s7 2 (by decide) (by decide)) (by omega)
  have m3 := T6_row (x := x + 805) (s7 401 (by decide) (by decide)) (by omega)
  refine ⟨sh_app s2 ⟨fun q hq => ?_, fun q hq => ?_⟩, fun q hq => (List.mem_append.mp hq).elim (s3 q) (fun hq => ?_)⟩
  · simp only [TM, List.mem_cons, List.not_mem_nil, or_false] at hq
    rcases hq with rfl | rfl | rfl | rfl | rfl | rfl | rfl | rfl
    · exact ⟨m0.1, m0.2.1⟩
    · exact ⟨m1.1, m1.2.1⟩
    · exact ⟨m2.1, m2.2.1⟩
    · exact ⟨m3.1, m3.2.1⟩
    · exact ⟨m0.2.2.1, m0.2.2.2.1⟩
    · exact ⟨m1.2.2.1, m1.2.2.2.1⟩
    · exact ⟨m2.2.2.1, m2.2.2.2.1⟩
    · exact ⟨m3.2.2.1, m3.2.2.2.1⟩
  · simp only [TM, List.mem_cons, List.not_mem_nil, or_false] at hq
    rcases hq with rfl | rfl | rfl | rfl
    · exact m0.2.2.2.2
    · exact m1.2.2.2.2
    · exact m2.2.2.2.2
    · exact m3.2.2.2.2
  · simp only [OM, List.mem_cons, List.not_mem_nil, or_false] at hq
    rcases hq with rfl | rfl | rfl
    · exact s6 0 (by decide) (by decide)
    · exact s6 1 (by decide) (by decide)
    · exact s6 2 (by decide) (by decide)
