/-! ===== the resets, exact ===== -/
theorem m_X7_empty {G : GE} (hst : (ge_l G).stackTraces = false) {a N : Nat} {g : GT} (hk : gx_K g a = 50) (hN : gx_N g a = N) (hb : N < 2 ^ 31) (h10 : 10 ≤ N) : ex_M G 3 0 0 my_X7_empty [.ref a] g (rv none (px_F g a 0 10 0)) := by
  refine ex_M_of ok_X7_empty cw_X7_empty rfl hst (Nat.le_of_ble_eq_true rfl) ?_
  refine ex_aload_n ok_X7_empty (mi 0 rfl) rfl ?_
  refine ex_iconst ok_X7_empty (mi 1 rfl) ?_
  refine ex_bipush ok_X7_empty (mi 2 rfl) ?_
  refine ex_iconst ok_X7_empty (mi 3 rfl) ?_
  refine ex_callSr ok_X7_empty (mi 4 rfl) rfl (m_J7_fill_fda19 (lo := 0) (hi := 10) (v := 0) hst hk hN (by omega) h10 hb) rfl rfl rfl (by decide) (Nat.le_of_ble_eq_true rfl) (by decide) ?_
  refine ex_vret ok_X7_empty (mi 5 rfl) rfl ?_
  exact ⟨rfl, rfl⟩
def F_X1_reset (g : GT) (a : Nat) : GT := (px_I (px_I (px_I (px_I (px_I (px_I g 100 a 0) 101 a 0) 102 a 0) 103 a 0) 104 a 0) 105 a 0)
theorem sq_X1_reset (g : GT) (a : Nat) : sq g (F_X1_reset g a) := by
  unfold F_X1_reset
  exact (sqI (sqI (sqI (sqI (sqI (sqI sq0))))))
theorem m_X1_reset {G : GE} (hst : (ge_l G).stackTraces = false) {a : Nat} {g : GT} (h : sh T1 g a) : ex_M G 1 0 0 my_X1_reset [.ref a] g (rv none (F_X1_reset g a)) := by
  refine ex_M_of ok_X1_reset cw_X1_reset rfl hst (Nat.le_of_ble_eq_true rfl) ?_
  refine ex_aload_n ok_X1_reset (mi 0 rfl) rfl ?_
  refine ex_iconst ok_X1_reset (mi 1 rfl) ?_
  refine ex_putI ok_X1_reset (mi 2 rfl) rfl (sh_k h 0 rfl) rfl ?_
  refine ex_aload_n ok_X1_reset (mi 3 rfl) rfl ?_
  refine ex_iconst ok_X1_reset (mi 4 rfl) ?_
  refine ex_putI ok_X1_reset (mi 5 rfl) rfl (kq (sqI sq0) (sh_k h 0 rfl)) rfl ?_
  refine ex_aload_n ok_X1_reset (mi 6 rfl) rfl ?_
  refine ex_iconst ok_X1_reset (mi 7 rfl) ?_
  refine ex_putI ok_X1_reset (mi 8 rfl) rfl (kq (sqI (sqI sq0)) (sh_k h 0 rfl)) rfl ?_
  refine ex_aload_n ok_X1_reset (mi 9 rfl) rfl ?_
  refine ex_iconst ok_X1_reset (mi 10 rfl) ?_
  refine ex_putI ok_X1_reset (mi 11 rfl) rfl (kq (sqI (sqI (sqI sq0))) (sh_k h 0 rfl)) rfl ?_
  refine ex_aload_n ok_X1_reset (mi 12 rfl) rfl ?_
  refine ex_iconst ok_X1_reset (mi 13 rfl) ?_
  refine ex_putI ok_X1_reset (mi 14 rfl) rfl (kq (sqI (sqI (sqI (sqI sq0)))) (sh_k h 0 rfl)) rfl ?_
  refine ex_aload_n ok_X1_reset (mi 15 rfl) rfl ?_
  refine ex_iconst ok_X1_reset (mi 16 rfl) ?_
  refine ex_putI ok_X1_reset (mi 17 rfl) rfl (kq (sqI (sqI (sqI (sqI (sqI sq0))))) (sh_k h 0 rfl)) rfl ?_
  refine ex_vret ok_X1_reset (mi 18 rfl) rfl ?_
  exact ⟨rfl, rfl⟩
def F_X0_reset (g : GT) (a : Nat) : GT := (px_I (px_I (px_I (px_I g 3 a 0) 4 a 0) 5 a 0) 6 a 0)
theorem sq_X0_reset (g : GT) (a : Nat) : sq g (F_X0_reset g a) := by
  unfold F_X0_reset
  exact (sqI (sqI (sqI (sqI sq0))))
theorem m_X0_reset {G : GE} (hst : (ge_l G).stackTraces = false) {a : Nat} {g : GT} (h : gx_K g a = 1) : ex_M G 1 0 0 my_X0_reset [.ref a] g (rv none (F_X0_reset g a)) := by
  refine ex_M_of ok_X0_reset cw_X0_reset rfl hst (Nat.le_of_ble_eq_true rfl) ?_
  refine ex_aload_n ok_X0_reset (mi 0 rfl) rfl ?_
  refine ex_iconst ok_X0_reset (mi 1 rfl) ?_
  refine ex_putI ok_X0_reset (mi 2 rfl) rfl h rfl ?_
  refine ex_aload_n ok_X0_reset (mi 3 rfl) rfl ?_
  refine ex_iconst ok_X0_reset (mi 4 rfl) ?_
  refine ex_putI ok_X0_reset (mi 5 rfl) rfl (kq (sqI sq0) h) rfl ?_
  refine ex_aload_n ok_X0_reset (mi 6 rfl) rfl ?_
  refine ex_iconst ok_X0_reset (mi 7 rfl) ?_
  refine ex_putI ok_X0_reset (mi 8 rfl) rfl (kq (sqI (sqI sq0)) h) rfl ?_
  refine ex_aload_n ok_X0_reset (mi 9 rfl) rfl ?_
  refine ex_iconst ok_X0_reset (mi 10 rfl) ?_
  refine ex_putI ok_X0_reset (mi 11 rfl) rfl (kq (sqI (sqI (sqI sq0))) h) rfl ?_
  refine ex_vret ok_X0_reset (mi 12 rfl) rfl ?_
  exact ⟨rfl, rfl⟩
def F_X2_reset (g : GT) (a : Nat) : GT := (px_I (px_F g (a + 1) 0 48 (-1)) 202 a 0)
theorem sq_X2_reset (g : GT) (a : Nat) : sq g (F_X2_reset g a) := by
  unfold F_X2_reset
  exact (sqI (sqF sq0))
theorem m_X2_reset {G : GE} (hst : (ge_l G).stackTraces = false) {a : Nat} {g : GT} (h : sh T2 g a) : ex_M G 2 0 0 my_X2_reset [.ref a] g (rv none (F_X2_reset g a)) := by
  refine ex_M_of ok_X2_reset cw_X2_reset rfl hst (Nat.le_of_ble_eq_true rfl) ?_
  refine ex_aload_n ok_X2_reset (mi 0 rfl) rfl ?_
  refine ex_getRx ok_X2_reset (mi 1 rfl) rfl rfl (sh_k h 0 rfl) (rq sq0 (sh_r h 0 rfl)) (sh_k h 1 rfl) (by decide) ?_
  refine ex_iconst ok_X2_reset (mi 2 rfl) ?_
  refine ex_callSr ok_X2_reset (mi 3 rfl) rfl (m_J7_fill_53178 hst (kq sq0 (sh_k h 1 rfl)) (nq sq0 (sh_n h 1 rfl)) (by decide)) rfl rfl rfl (by decide) (Nat.le_of_ble_eq_true rfl) (by decide) ?_
  refine ex_aload_n ok_X2_reset (mi 4 rfl) rfl ?_
  refine ex_iconst ok_X2_reset (mi 5 rfl) ?_
  refine ex_putI ok_X2_reset (mi 6 rfl) rfl (kq (sqF sq0) (sh_k h 0 rfl)) rfl ?_
  refine ex_vret ok_X2_reset (mi 7 rfl) rfl ?_
  exact ⟨rfl, rfl⟩
def F_X3_forgetReform (g : GT) (a : Nat) : GT := (px_I (px_I (px_I (px_I g 308 a (-1)) 309 a (-1)) 310 a 0) 311 a 0)
theorem sq_X3_forgetReform (g : GT) (a : Nat) : sq g (F_X3_forgetReform g a) := by
  unfold F_X3_forgetReform
  exact (sqI (sqI (sqI (sqI sq0))))
theorem m_X3_forgetReform {G : GE} (hst : (ge_l G).stackTraces = false) {a : Nat} {g : GT} (h : sh T3 g a) : ex_M G 1 0 0 my_X3_forgetReform [.ref a] g (rv none (F_X3_forgetReform g a)) := by
  refine ex_M_of ok_X3_forgetReform cw_X3_forgetReform rfl hst (Nat.le_of_ble_eq_true rfl) ?_
  refine ex_aload_n ok_X3_forgetReform (mi 0 rfl) rfl ?_
  refine ex_iconst ok_X3_forgetReform (mi 1 rfl) ?_
  refine ex_putI ok_X3_forgetReform (mi 2 rfl) rfl (sh_k h 0 rfl) rfl ?_
  refine ex_aload_n ok_X3_forgetReform (mi 3 rfl) rfl ?_
  refine ex_iconst ok_X3_forgetReform (mi 4 rfl) ?_
  refine ex_putI ok_X3_forgetReform (mi 5 rfl) rfl (kq (sqI sq0) (sh_k h 0 rfl)) rfl ?_
  refine ex_aload_n ok_X3_forgetReform (mi 6 rfl) rfl ?_
  refine ex_iconst ok_X3_forgetReform (mi 7 rfl) ?_
  refine ex_putI ok_X3_forgetReform (mi 8 rfl) rfl (kq (sqI (sqI sq0)) (sh_k h 0 rfl)) rfl ?_
  refine ex_aload_n ok_X3_forgetReform (mi 9 rfl) rfl ?_
  refine ex_iconst ok_X3_forgetReform (mi 10 rfl) ?_
  refine ex_putI ok_X3_forgetReform (mi 11 rfl) rfl (kq (sqI (sqI (sqI sq0))) (sh_k h 0 rfl)) rfl ?_
  refine ex_vret ok_X3_forgetReform (mi 12 rfl) rfl ?_
  exact ⟨rfl, rfl⟩
def F_X4_forget (g : GT) (a : Nat) : GT := (px_I (px_I (px_F (px_I (px_I g 407 a 0) 408 a 0) (a + 1) 0 10 0) 410 a (-1)) 411 a 0)
theorem sq_X4_forget (g : GT) (a : Nat) : sq g (F_X4_forget g a) := by
  unfold F_X4_forget
  exact (sqI (sqI (sqF (sqI (sqI sq0)))))
theorem m_X4_forget {G : GE} (hst : (ge_l G).stackTraces = false) {a : Nat} {g : GT} (h : sh T4 g a) : ex_M G 4 0 0 my_X4_forget [.ref a] g (rv none (F_X4_forget g a)) := by
  refine ex_M_of ok_X4_forget cw_X4_forget rfl hst (Nat.le_of_ble_eq_true rfl) ?_
  refine ex_aload_n ok_X4_forget (mi 0 rfl) rfl ?_
  refine ex_iconst ok_X4_forget (mi 1 rfl) ?_
  refine ex_putI ok_X4_forget (mi 2 rfl) rfl (sh_k h 0 rfl) rfl ?_
  refine ex_aload_n ok_X4_forget (mi 3 rfl) rfl ?_
  refine ex_iconst ok_X4_forget (mi 4 rfl) ?_
  refine ex_putI ok_X4_forget (mi 5 rfl) rfl (kq (sqI sq0) (sh_k h 0 rfl)) rfl ?_
  refine ex_aload_n ok_X4_forget (mi 6 rfl) rfl ?_
  refine ex_getRx ok_X4_forget (mi 7 rfl) rfl rfl (kq (sqI (sqI sq0)) (sh_k h 0 rfl)) (rq (sqI (sqI sq0)) (sh_r h 0 rfl)) (kq (sqI (sqI sq0)) (sh_k h 1 rfl)) (by decide) ?_
  refine ex_callSr ok_X4_forget (mi 8 rfl) rfl (m_X7_empty hst (kq (sqI (sqI sq0)) (sh_k h 1 rfl)) (nq (sqI (sqI sq0)) (sh_n h 1 rfl)) (by decide) (by decide)) rfl rfl rfl (by decide) (Nat.le_of_ble_eq_true rfl) (by decide) ?_
  refine ex_aload_n ok_X4_forget (mi 9 rfl) rfl ?_
  refine ex_iconst ok_X4_forget (mi 10 rfl) ?_
  refine ex_putI ok_X4_forget (mi 11 rfl) rfl (kq (sqF (sqI (sqI sq0))) (sh_k h 0 rfl)) rfl ?_
  refine ex_aload_n ok_X4_forget (mi 12 rfl) rfl ?_
  refine ex_iconst ok_X4_forget (mi 13 rfl) ?_
  refine ex_putI ok_X4_forget (mi 14 rfl) rfl (kq (sqI (sqF (sqI (sqI sq0)))) (sh_k h 0 rfl)) rfl ?_
  refine ex_vret ok_X4_forget (mi 15 rfl) rfl ?_
  exact ⟨rfl, rfl⟩
def F_X4_reset (g : GT) (a : Nat) : GT := (F_X4_forget (px_I (px_I (px_I (px_I (px_I g 402 a 0) 403 a 7) 404 a 0) 405 a (-1)) 406 a 0) a)
theorem sq_X4_reset (g : GT) (a : Nat) : sq g (F_X4_reset g a) := by
  unfold F_X4_reset
  exact (sq.trans (sqI (sqI (sqI (sqI (sqI sq0))))) (sq_X4_forget _ _))
theorem m_X4_reset {G : GE} (hst : (ge_l G).stackTraces = false) {a : Nat} {g : GT} (h : sh T4 g a) : ex_M G 5 0 0 my_X4_reset [.ref a] g (rv none (F_X4_reset g a)) := by
  refine ex_M_of ok_X4_reset cw_X4_reset rfl hst (Nat.le_of_ble_eq_true rfl) ?_
  refine ex_aload_n ok_X4_reset (mi 0 rfl) rfl ?_
  refine ex_iconst ok_X4_reset (mi 1 rfl) ?_
  refine ex_putI ok_X4_reset (mi 2 rfl) rfl (sh_k h 0 rfl) rfl ?_
  refine ex_aload_n ok_X4_reset (mi 3 rfl) rfl ?_
  refine ex_bipush ok_X4_reset (mi 4 rfl) ?_
  refine ex_putI ok_X4_reset (mi 5 rfl) rfl (kq (sqI sq0) (sh_k h 0 rfl)) rfl ?_
  refine ex_aload_n ok_X4_reset (mi 6 rfl) rfl ?_
  refine ex_iconst ok_X4_reset (mi 7 rfl) ?_
  refine ex_putI ok_X4_reset (mi 8 rfl) rfl (kq (sqI (sqI sq0)) (sh_k h 0 rfl)) rfl ?_
  refine ex_aload_n ok_X4_reset (mi 9 rfl) rfl ?_
  refine ex_iconst ok_X4_reset (mi 10 rfl) ?_
  refine ex_putI ok_X4_reset (mi 11 rfl) rfl (kq (sqI (sqI (sqI sq0))) (sh_k h 0 rfl)) rfl ?_
  refine ex_aload_n ok_X4_reset (mi 12 rfl) rfl ?_
  refine ex_iconst ok_X4_reset (mi 13 rfl) ?_
  refine ex_putI ok_X4_reset (mi 14 rfl) rfl (kq (sqI (sqI (sqI (sqI sq0)))) (sh_k h 0 rfl)) rfl ?_
  refine ex_aload_n ok_X4_reset (mi 15 rfl) rfl ?_
  refine ex_callVr ok_X4_reset (mi 16 rfl) rfl (m_X4_forget hst (shq (sqI (sqI (sqI (sqI (sqI sq0))))) h)) rfl (kq (sqI (sqI (sqI (sqI (sqI sq0))))) (sh_k h 0 rfl)) rfl rfl (by decide) (by decide) (Nat.le_of_ble_eq_true rfl) (by decide) ?_
  refine ex_vret ok_X4_reset (mi 17 rfl) rfl ?_
  exact ⟨rfl, rfl⟩
def F_X5_forgetMatched (g : GT) (a : Nat) : GT := (px_F (px_I (px_I g 509 a 0) 510 a 0) (a + 1) 0 10 0)
theorem sq_X5_forgetMatched (g : GT) (a : Nat) : sq g (F_X5_forgetMatched g a) := by
  unfold F_X5_forgetMatched
  exact (sqF (sqI (sqI sq0)))
theorem m_X5_forgetMatched {G : GE} (hst : (ge_l G).stackTraces = false) {a : Nat} {g : GT} (h : sh T5 g a) : ex_M G 4 0 0 my_X5_forgetMatched [.ref a] g (rv none (F_X5_forgetMatched g a)) := by
  refine ex_M_of ok_X5_forgetMatched cw_X5_forgetMatched rfl hst (Nat.le_of_ble_eq_true rfl) ?_
  refine ex_aload_n ok_X5_forgetMatched (mi 0 rfl) rfl ?_
  refine ex_iconst ok_X5_forgetMatched (mi 1 rfl) ?_
  refine ex_putI ok_X5_forgetMatched (mi 2 rfl) rfl (sh_k h 0 rfl) rfl ?_
  refine ex_aload_n ok_X5_forgetMatched (mi 3 rfl) rfl ?_
  refine ex_iconst ok_X5_forgetMatched (mi 4 rfl) ?_
  refine ex_putI ok_X5_forgetMatched (mi 5 rfl) rfl (kq (sqI sq0) (sh_k h 0 rfl)) rfl ?_
  refine ex_aload_n ok_X5_forgetMatched (mi 6 rfl) rfl ?_
  refine ex_getRx ok_X5_forgetMatched (mi 7 rfl) rfl rfl (kq (sqI (sqI sq0)) (sh_k h 0 rfl)) (rq (sqI (sqI sq0)) (sh_r h 3 rfl)) (kq (sqI (sqI sq0)) (sh_k h 1 rfl)) (by decide) ?_
  refine ex_callSr ok_X5_forgetMatched (mi 8 rfl) rfl (m_X7_empty hst (kq (sqI (sqI sq0)) (sh_k h 1 rfl)) (nq (sqI (sqI sq0)) (sh_n h 1 rfl)) (by decide) (by decide)) rfl rfl rfl (by decide) (Nat.le_of_ble_eq_true rfl) (by decide) ?_
  refine ex_vret ok_X5_forgetMatched (mi 9 rfl) rfl ?_
  exact ⟨rfl, rfl⟩
def F_X8_reset (g : GT) (a : Nat) : GT := (px_F (px_F (px_F (px_F g (a + 1) 0 16 0) (a + 2) 0 16 (-1)) (a + 3) 0 16 0) (a + 4) 0 16 0)
theorem sq_X8_reset (g : GT) (a : Nat) : sq g (F_X8_reset g a) := by
  unfold F_X8_reset
  exact (sqF (sqF (sqF (sqF sq0))))
theorem m_X8_reset {G : GE} (hst : (ge_l G).stackTraces = false) {a : Nat} {g : GT} (h : sh T8 g a) : ex_M G 2 0 0 my_X8_reset [.ref a] g (rv none (F_X8_reset g a)) := by
  refine ex_M_of ok_X8_reset cw_X8_reset rfl hst (Nat.le_of_ble_eq_true rfl) ?_
  refine ex_aload_n ok_X8_reset (mi 0 rfl) rfl ?_
  refine ex_getRx ok_X8_reset (mi 1 rfl) rfl rfl (sh_k h 0 rfl) (rq sq0 (sh_r h 0 rfl)) (sh_k h 1 rfl) (by decide) ?_
  refine ex_iconst ok_X8_reset (mi 2 rfl) ?_
  refine ex_callSr ok_X8_reset (mi 3 rfl) rfl (m_J7_fill_53178 hst (kq sq0 (sh_k h 1 rfl)) (nq sq0 (sh_n h 1 rfl)) (by decide)) rfl rfl rfl (by decide) (Nat.le_of_ble_eq_true rfl) (by decide) ?_
  refine ex_aload_n ok_X8_reset (mi 4 rfl) rfl ?_
  refine ex_getRx ok_X8_reset (mi 5 rfl) rfl rfl (kq (sqF sq0) (sh_k h 0 rfl)) (rq (sqF sq0) (sh_r h 1 rfl)) (kq (sqF sq0) (sh_k h 2 rfl)) (by decide) ?_
  refine ex_iconst ok_X8_reset (mi 6 rfl) ?_
  refine ex_callSr ok_X8_reset (mi 7 rfl) rfl (m_J7_fill_53178 hst (kq (sqF sq0) (sh_k h 2 rfl)) (nq (sqF sq0) (sh_n h 2 rfl)) (by decide)) rfl rfl rfl (by decide) (Nat.le_of_ble_eq_true rfl) (by decide) ?_
  refine ex_aload_n ok_X8_reset (mi 8 rfl) rfl ?_
  refine ex_getRx ok_X8_reset (mi 9 rfl) rfl rfl (kq (sqF (sqF sq0)) (sh_k h 0 rfl)) (rq (sqF (sqF sq0)) (sh_r h 2 rfl)) (kq (sqF (sqF sq0)) (sh_k h 3 rfl)) (by decide) ?_
  refine ex_iconst ok_X8_reset (mi 10 rfl) ?_
  refine ex_callSr ok_X8_reset (mi 11 rfl) rfl (m_J7_fill_53178 hst (kq (sqF (sqF sq0)) (sh_k h 3 rfl)) (nq (sqF (sqF sq0)) (sh_n h 3 rfl)) (by decide)) rfl rfl rfl (by decide) (Nat.le_of_ble_eq_true rfl) (by decide) ?_
  refine ex_aload_n ok_X8_reset (mi 12 rfl) rfl ?_
  refine ex_getRx ok_X8_reset (mi 13 rfl) rfl rfl (kq (sqF (sqF (sqF sq0))) (sh_k h 0 rfl)) (rq (sqF (sqF (sqF sq0))) (sh_r h 3 rfl)) (kq (sqF (sqF (sqF sq0))) (sh_k h 4 rfl)) (by decide) ?_
  refine ex_iconst ok_X8_reset (mi 14 rfl) ?_
  refine ex_callSr ok_X8_reset (mi 15 rfl) rfl (m_J7_fill_53178 hst (kq (sqF (sqF (sqF sq0))) (sh_k h 4 rfl)) (nq (sqF (sqF (sqF sq0))) (sh_n h 4 rfl)) (by decide)) rfl rfl rfl (by decide) (Nat.le_of_ble_eq_true rfl) (by decide) ?_
  refine ex_vret ok_X8_reset (mi 16 rfl) rfl ?_
  exact ⟨rfl, rfl⟩
def F_X5_forgetRound (g : GT) (a : Nat) : GT := (F_X1_reset (F_X8_reset (px_I (px_I (px_F (px_I (px_I (F_X5_forgetMatched g a) 512 a 0) 513 a 0) (a + 2) 0 16 (-1)) 515 a 0) 516 a 0) (a + 5)) (a + 10))
theorem sq_X5_forgetRound (g : GT) (a : Nat) : sq g (F_X5_forgetRound g a) := by
  unfold F_X5_forgetRound
  exact (sq.trans (sq.trans (sqI (sqI (sqF (sqI (sqI (sq.trans sq0 (sq_X5_forgetMatched _ _))))))) (sq_X8_reset _ _)) (sq_X1_reset _ _))
theorem m_X5_forgetRound {G : GE} (hst : (ge_l G).stackTraces = false) {a : Nat} {g : GT} (h : sh T5 g a) : ex_M G 5 0 0 my_X5_forgetRound [.ref a] g (rv none (F_X5_forgetRound g a)) := by
  refine ex_M_of ok_X5_forgetRound cw_X5_forgetRound rfl hst (Nat.le_of_ble_eq_true rfl) ?_
  refine ex_aload_n ok_X5_forgetRound (mi 0 rfl) rfl ?_
  refine ex_callVr ok_X5_forgetRound (mi 1 rfl) rfl (m_X5_forgetMatched hst (shq sq0 h)) rfl (sh_k h 0 rfl) rfl rfl (by decide) (by decide) (Nat.le_of_ble_eq_true rfl) (by decide) ?_
  refine ex_aload_n ok_X5_forgetRound (mi 2 rfl) rfl ?_
  refine ex_iconst ok_X5_forgetRound (mi 3 rfl) ?_
  refine ex_putI ok_X5_forgetRound (mi 4 rfl) rfl (kq (sq.trans sq0 (sq_X5_forgetMatched _ _)) (sh_k h 0 rfl)) rfl ?_
  refine ex_aload_n ok_X5_forgetRound (mi 5 rfl) rfl ?_
  refine ex_iconst ok_X5_forgetRound (mi 6 rfl) ?_
  refine ex_putI ok_X5_forgetRound (mi 7 rfl) rfl (kq (sqI (sq.trans sq0 (sq_X5_forgetMatched _ _))) (sh_k h 0 rfl)) rfl ?_
  refine ex_aload_n ok_X5_forgetRound (mi 8 rfl) rfl ?_
  refine ex_getRx ok_X5_forgetRound (mi 9 rfl) rfl rfl (kq (sqI (sqI (sq.trans sq0 (sq_X5_forgetMatched _ _)))) (sh_k h 0 rfl)) (rq (sqI (sqI (sq.trans sq0 (sq_X5_forgetMatched _ _)))) (sh_r h 4 rfl)) (kq (sqI (sqI (sq.trans sq0 (sq_X5_forgetMatched _ _)))) (sh_k h 2 rfl)) (by decide) ?_
  refine ex_iconst ok_X5_forgetRound (mi 10 rfl) ?_
  refine ex_callSr ok_X5_forgetRound (mi 11 rfl) rfl (m_J7_fill_53178 hst (kq (sqI (sqI (sq.trans sq0 (sq_X5_forgetMatched _ _)))) (sh_k h 2 rfl)) (nq (sqI (sqI (sq.trans sq0 (sq_X5_forgetMatched _ _)))) (sh_n h 2 rfl)) (by decide)) rfl rfl rfl (by decide) (Nat.le_of_ble_eq_true rfl) (by decide) ?_
  refine ex_aload_n ok_X5_forgetRound (mi 12 rfl) rfl ?_
  refine ex_iconst ok_X5_forgetRound (mi 13 rfl) ?_
  refine ex_putI ok_X5_forgetRound (mi 14 rfl) rfl (kq (sqF (sqI (sqI (sq.trans sq0 (sq_X5_forgetMatched _ _))))) (sh_k h 0 rfl)) rfl ?_
  refine ex_aload_n ok_X5_forgetRound (mi 15 rfl) rfl ?_
  refine ex_iconst ok_X5_forgetRound (mi 16 rfl) ?_
  refine ex_putI ok_X5_forgetRound (mi 17 rfl) rfl (kq (sqI (sqF (sqI (sqI (sq.trans sq0 (sq_X5_forgetMatched _ _)))))) (sh_k h 0 rfl)) rfl ?_
  refine ex_aload_n ok_X5_forgetRound (mi 18 rfl) rfl ?_
  refine ex_getRx ok_X5_forgetRound (mi 19 rfl) rfl rfl (kq (sqI (sqI (sqF (sqI (sqI (sq.trans sq0 (sq_X5_forgetMatched _ _))))))) (sh_k h 0 rfl)) (rq (sqI (sqI (sqF (sqI (sqI (sq.trans sq0 (sq_X5_forgetMatched _ _))))))) (sh_r h 1 rfl)) (kq (sqI (sqI (sqF (sqI (sqI (sq.trans sq0 (sq_X5_forgetMatched _ _))))))) (sh_k h 5 rfl)) (by decide) ?_
  refine ex_callVr ok_X5_forgetRound (mi 20 rfl) rfl (m_X8_reset hst (shq (sqI (sqI (sqF (sqI (sqI (sq.trans sq0 (sq_X5_forgetMatched _ _))))))) (sh_58 h))) rfl (kq (sqI (sqI (sqF (sqI (sqI (sq.trans sq0 (sq_X5_forgetMatched _ _))))))) (sh_k h 5 rfl)) rfl rfl (by decide) (by decide) (Nat.le_of_ble_eq_true rfl) (by decide) ?_
  refine ex_aload_n ok_X5_forgetRound (mi 21 rfl) rfl ?_
  refine ex_getRx ok_X5_forgetRound (mi 22 rfl) rfl rfl (kq (sq.trans (sqI (sqI (sqF (sqI (sqI (sq.trans sq0 (sq_X5_forgetMatched _ _))))))) (sq_X8_reset _ _)) (sh_k h 0 rfl)) (rq (sq.trans (sqI (sqI (sqF (sqI (sqI (sq.trans sq0 (sq_X5_forgetMatched _ _))))))) (sq_X8_reset _ _)) (sh_r h 2 rfl)) (kq (sq.trans (sqI (sqI (sqF (sqI (sqI (sq.trans sq0 (sq_X5_forgetMatched _ _))))))) (sq_X8_reset _ _)) (sh_k h 10 rfl)) (by decide) ?_
  refine ex_callVr ok_X5_forgetRound (mi 23 rfl) rfl (m_X1_reset hst (shq (sq.trans (sqI (sqI (sqF (sqI (sqI (sq.trans sq0 (sq_X5_forgetMatched _ _))))))) (sq_X8_reset _ _)) (sh_51 h))) rfl (kq (sq.trans (sqI (sqI (sqF (sqI (sqI (sq.trans sq0 (sq_X5_forgetMatched _ _))))))) (sq_X8_reset _ _)) (sh_k h 10 rfl)) rfl rfl (by decide) (by decide) (Nat.le_of_ble_eq_true rfl) (by decide) ?_
  refine ex_vret ok_X5_forgetRound (mi 24 rfl) rfl ?_
  exact ⟨rfl, rfl⟩
def F_X5_reset (g : GT) (a : Nat) : GT := (F_X5_forgetRound (F_X4_reset (px_I (px_I (px_I g 506 a 0) 507 a (-1)) 508 a 0) (a + 3)) a)
theorem sq_X5_reset (g : GT) (a : Nat) : sq g (F_X5_reset g a) := by
  unfold F_X5_reset
  exact (sq.trans (sq.trans (sqI (sqI (sqI sq0))) (sq_X4_reset _ _)) (sq_X5_forgetRound _ _))
theorem m_X5_reset {G : GE} (hst : (ge_l G).stackTraces = false) {a : Nat} {g : GT} (h : sh T5 g a) : ex_M G 6 0 0 my_X5_reset [.ref a] g (rv none (F_X5_reset g a)) := by
  refine ex_M_of ok_X5_reset cw_X5_reset rfl hst (Nat.le_of_ble_eq_true rfl) ?_
  refine ex_aload_n ok_X5_reset (mi 0 rfl) rfl ?_
  refine ex_iconst ok_X5_reset (mi 1 rfl) ?_
  refine ex_putI ok_X5_reset (mi 2 rfl) rfl (sh_k h 0 rfl) rfl ?_
  refine ex_aload_n ok_X5_reset (mi 3 rfl) rfl ?_
  refine ex_iconst ok_X5_reset (mi 4 rfl) ?_
  refine ex_putI ok_X5_reset (mi 5 rfl) rfl (kq (sqI sq0) (sh_k h 0 rfl)) rfl ?_
  refine ex_aload_n ok_X5_reset (mi 6 rfl) rfl ?_
  refine ex_iconst ok_X5_reset (mi 7 rfl) ?_
  refine ex_putI ok_X5_reset (mi 8 rfl) rfl (kq (sqI (sqI sq0)) (sh_k h 0 rfl)) rfl ?_
  refine ex_aload_n ok_X5_reset (mi 9 rfl) rfl ?_
  refine ex_getRx ok_X5_reset (mi 10 rfl) rfl rfl (kq (sqI (sqI (sqI sq0))) (sh_k h 0 rfl)) (rq (sqI (sqI (sqI sq0))) (sh_r h 0 rfl)) (kq (sqI (sqI (sqI sq0))) (sh_k h 3 rfl)) (by decide) ?_
  refine ex_callVr ok_X5_reset (mi 11 rfl) rfl (m_X4_reset hst (shq (sqI (sqI (sqI sq0))) (sh_54 h))) rfl (kq (sqI (sqI (sqI sq0))) (sh_k h 3 rfl)) rfl rfl (by decide) (by decide) (Nat.le_of_ble_eq_true rfl) (by decide) ?_
  refine ex_aload_n ok_X5_reset (mi 12 rfl) rfl ?_
  refine ex_callVr ok_X5_reset (mi 13 rfl) rfl (m_X5_forgetRound hst (shq (sq.trans (sqI (sqI (sqI sq0))) (sq_X4_reset _ _)) h)) rfl (kq (sq.trans (sqI (sqI (sqI sq0))) (sq_X4_reset _ _)) (sh_k h 0 rfl)) rfl rfl (by decide) (by decide) (Nat.le_of_ble_eq_true rfl) (by decide) ?_
  refine ex_vret ok_X5_reset (mi 14 rfl) rfl ?_
  exact ⟨rfl, rfl⟩
def F_X10_reset (g : GT) (a : Nat) : GT := (px_F (px_I (px_I g 1003 a (-1)) 1004 a 0) (a + 1) 0 16 (-1))
theorem sq_X10_reset (g : GT) (a : Nat) : sq g (F_X10_reset g a) := by
  unfold F_X10_reset
  exact (sqF (sqI (sqI sq0)))
theorem m_X10_reset {G : GE} (hst : (ge_l G).stackTraces = false) {a : Nat} {g : GT} (h : sh T10 g a) : ex_M G 2 0 0 my_X10_reset [.ref a] g (rv none (F_X10_reset g a)) := by
  refine ex_M_of ok_X10_reset cw_X10_reset rfl hst (Nat.le_of_ble_eq_true rfl) ?_
  refine ex_aload_n ok_X10_reset (mi 0 rfl) rfl ?_
  refine ex_iconst ok_X10_reset (mi 1 rfl) ?_
  refine ex_putI ok_X10_reset (mi 2 rfl) rfl (sh_k h 0 rfl) rfl ?_
  refine ex_aload_n ok_X10_reset (mi 3 rfl) rfl ?_
  refine ex_iconst ok_X10_reset (mi 4 rfl) ?_
  refine ex_putI ok_X10_reset (mi 5 rfl) rfl (kq (sqI sq0) (sh_k h 0 rfl)) rfl ?_
  refine ex_aload_n ok_X10_reset (mi 6 rfl) rfl ?_
  refine ex_getRx ok_X10_reset (mi 7 rfl) rfl rfl (kq (sqI (sqI sq0)) (sh_k h 0 rfl)) (rq (sqI (sqI sq0)) (sh_r h 0 rfl)) (kq (sqI (sqI sq0)) (sh_k h 1 rfl)) (by decide) ?_
  refine ex_iconst ok_X10_reset (mi 8 rfl) ?_
  refine ex_callSr ok_X10_reset (mi 9 rfl) rfl (m_J7_fill_53178 hst (kq (sqI (sqI sq0)) (sh_k h 1 rfl)) (nq (sqI (sqI sq0)) (sh_n h 1 rfl)) (by decide)) rfl rfl rfl (by decide) (Nat.le_of_ble_eq_true rfl) (by decide) ?_
  refine ex_vret ok_X10_reset (mi 10 rfl) rfl ?_
  exact ⟨rfl, rfl⟩
def F_X9_reset (g : GT) (a : Nat) : GT := (px_I (px_I (px_F (px_FL g (a + 1) 0 1200 0) (a + 2) 0 16 (-1)) 903 a 0) 904 a 0)
theorem sq_X9_reset (g : GT) (a : Nat) : sq g (F_X9_reset g a) := by
  unfold F_X9_reset
  exact (sqI (sqI (sqF (sqFL sq0))))
theorem m_X9_reset {G : GE} (hst : (ge_l G).stackTraces = false) {a : Nat} {g : GT} (h : sh T9 g a) : ex_M G 2 0 0 my_X9_reset [.ref a] g (rv none (F_X9_reset g a)) := by
  refine ex_M_of ok_X9_reset cw_X9_reset rfl hst (Nat.le_of_ble_eq_true rfl) ?_
  refine ex_aload_n ok_X9_reset (mi 0 rfl) rfl ?_
  refine ex_getRx ok_X9_reset (mi 1 rfl) rfl rfl (sh_k h 0 rfl) (rq sq0 (sh_r h 0 rfl)) (sh_k h 1 rfl) (by decide) ?_
  refine ex_lconst ok_X9_reset (mi 2 rfl) ?_
  refine ex_callSr ok_X9_reset (mi 3 rfl) rfl (m_J7_fill_d0a16 hst (kq sq0 (sh_k h 1 rfl)) (nq sq0 (sh_n h 1 rfl)) (by decide)) rfl rfl rfl (by decide) (Nat.le_of_ble_eq_true rfl) (by decide) ?_
  refine ex_aload_n ok_X9_reset (mi 4 rfl) rfl ?_
  refine ex_getRx ok_X9_reset (mi 5 rfl) rfl rfl (kq (sqFL sq0) (sh_k h 0 rfl)) (rq (sqFL sq0) (sh_r h 1 rfl)) (kq (sqFL sq0) (sh_k h 2 rfl)) (by decide) ?_
  refine ex_iconst ok_X9_reset (mi 6 rfl) ?_
  refine ex_callSr ok_X9_reset (mi 7 rfl) rfl (m_J7_fill_53178 hst (kq (sqFL sq0) (sh_k h 2 rfl)) (nq (sqFL sq0) (sh_n h 2 rfl)) (by decide)) rfl rfl rfl (by decide) (Nat.le_of_ble_eq_true rfl) (by decide) ?_
  refine ex_aload_n ok_X9_reset (mi 8 rfl) rfl ?_
  refine ex_iconst ok_X9_reset (mi 9 rfl) ?_
  refine ex_putI ok_X9_reset (mi 10 rfl) rfl (kq (sqF (sqFL sq0)) (sh_k h 0 rfl)) rfl ?_
  refine ex_aload_n ok_X9_reset (mi 11 rfl) rfl ?_
  refine ex_iconst ok_X9_reset (mi 12 rfl) ?_
  refine ex_putI ok_X9_reset (mi 13 rfl) rfl (kq (sqI (sqF (sqFL sq0))) (sh_k h 0 rfl)) rfl ?_
  refine ex_vret ok_X9_reset (mi 14 rfl) rfl ?_
  exact ⟨rfl, rfl⟩
