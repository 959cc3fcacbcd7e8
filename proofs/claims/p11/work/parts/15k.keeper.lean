/-! ===== Keeper's reset ===== -/
def F_X3_reset (g : GT) (s ge : Int32) (a : Nat) : GT := F_X3_forgetReform (px_F (px_I (px_I (px_I (px_I g 303 a s) 304 a ge) 305 a 0) 306 a 0) (a + 1) 0 10 0) a
theorem sq_X3_reset (g : GT) (s ge : Int32) (a : Nat) : sq g (F_X3_reset g s ge a) := by
  unfold F_X3_reset
  exact sq.trans (sqF (sqI (sqI (sqI (sqI sq0))))) (sq_X3_forgetReform _ _)
theorem m_X3_reset1 {G : GE} (hst : (ge_l G).stackTraces = false) {a : Nat} {v : Int32} {g : GT} (h : sh T3 g a) (hv : gx_I g 300 a = v) (hc : ¬ (((Int8.ofInt 7).toInt32 >>> (v &&& 31)) &&& Int32.ofInt 1 = 0)) : ex_M G 4 0 0 my_X3_reset [.ref a] g (rv none (F_X3_reset g 2 0 a)) := by
  refine ex_M_of ok_X3_reset cw_X3_reset rfl hst (Nat.le_of_ble_eq_true rfl) ?_
  refine ex_bipush ok_X3_reset (mi 0 rfl) ?_
  refine ex_aload_n ok_X3_reset (mi 1 rfl) rfl ?_
  refine ex_getIx ok_X3_reset (mi 2 rfl) rfl rfl (sh_k h 0 rfl) hv ?_
  refine ex_ishr ok_X3_reset (mi 3 rfl) ?_
  refine ex_iconst ok_X3_reset (mi 4 rfl) ?_
  refine ex_iand ok_X3_reset (mi 5 rfl) ?_
  refine ex_if_eq (tgt := 16) ok_X3_reset (mi 6 rfl) rfl (fun h9 => False.elim (hc h9)) (fun h9 => ?_)
  refine ex_iconst ok_X3_reset (mi 7 rfl) ?_
  refine ex_goto (tgt := 17) ok_X3_reset (mi 8 rfl) rfl ?_
  refine ex_istore_n ok_X3_reset (mi 10 rfl) ?_
  refine ex_aload_n ok_X3_reset (mi 11 rfl) rfl ?_
  refine ex_iload_n ok_X3_reset (mi 12 rfl) rfl ?_
  refine ex_if_eq (tgt := 27) ok_X3_reset (mi 13 rfl) rfl (fun h20 => False.elim (absurd h20 (by decide))) (fun h20 => ?_)
  refine ex_iconst ok_X3_reset (mi 14 rfl) ?_
  refine ex_goto (tgt := 28) ok_X3_reset (mi 15 rfl) rfl ?_
  refine ex_putI ok_X3_reset (mi 17 rfl) rfl (sh_k h 0 rfl) rfl ?_
  refine ex_aload_n ok_X3_reset (mi 18 rfl) rfl ?_
  refine ex_iload_n ok_X3_reset (mi 19 rfl) rfl ?_
  refine ex_if_eq (tgt := 40) ok_X3_reset (mi 20 rfl) rfl (fun h33 => False.elim (absurd h33 (by decide))) (fun h33 => ?_)
  refine ex_iconst ok_X3_reset (mi 21 rfl) ?_
  refine ex_goto (tgt := 41) ok_X3_reset (mi 22 rfl) rfl ?_
  refine ex_putI ok_X3_reset (mi 24 rfl) rfl (kq (sqI sq0) (sh_k h 0 rfl)) rfl ?_
  refine ex_aload_n ok_X3_reset (mi 25 rfl) rfl ?_
  refine ex_iconst ok_X3_reset (mi 26 rfl) ?_
  refine ex_putI ok_X3_reset (mi 27 rfl) rfl (kq (sqI (sqI sq0)) (sh_k h 0 rfl)) rfl ?_
  refine ex_aload_n ok_X3_reset (mi 28 rfl) rfl ?_
  refine ex_iconst ok_X3_reset (mi 29 rfl) ?_
  refine ex_putI ok_X3_reset (mi 30 rfl) rfl (kq (sqI (sqI (sqI sq0))) (sh_k h 0 rfl)) rfl ?_
  refine ex_aload_n ok_X3_reset (mi 31 rfl) rfl ?_
  refine ex_getRx ok_X3_reset (mi 32 rfl) rfl rfl (kq (sqI (sqI (sqI (sqI sq0)))) (sh_k h 0 rfl)) (rq (sqI (sqI (sqI (sqI sq0)))) (sh_r h 0 rfl)) (kq (sqI (sqI (sqI (sqI sq0)))) (sh_k h 1 rfl)) (by decide) ?_
  refine ex_callSr ok_X3_reset (mi 33 rfl) rfl (m_X7_empty hst (kq (sqI (sqI (sqI (sqI sq0)))) (sh_k h 1 rfl)) (nq (sqI (sqI (sqI (sqI sq0)))) (sh_n h 1 rfl)) (by decide) (by decide)) rfl rfl rfl (by decide) (Nat.le_of_ble_eq_true rfl) (by decide) ?_
  refine ex_aload_n ok_X3_reset (mi 34 rfl) rfl ?_
  refine ex_callVr ok_X3_reset (mi 35 rfl) rfl (m_X3_forgetReform hst (shq (sqF (sqI (sqI (sqI (sqI sq0))))) h)) rfl (kq (sqF (sqI (sqI (sqI (sqI sq0))))) (sh_k h 0 rfl)) rfl rfl (by decide) (by decide) (Nat.le_of_ble_eq_true rfl) (by decide) ?_
  refine ex_vret ok_X3_reset (mi 36 rfl) rfl ?_
  exact ⟨rfl, rfl⟩
theorem m_X3_reset0 {G : GE} (hst : (ge_l G).stackTraces = false) {a : Nat} {v : Int32} {g : GT} (h : sh T3 g a) (hv : gx_I g 300 a = v) (hc : (((Int8.ofInt 7).toInt32 >>> (v &&& 31)) &&& Int32.ofInt 1 = 0)) : ex_M G 4 0 0 my_X3_reset [.ref a] g (rv none (F_X3_reset g 0 (-1) a)) := by
  refine ex_M_of ok_X3_reset cw_X3_reset rfl hst (Nat.le_of_ble_eq_true rfl) ?_
  refine ex_bipush ok_X3_reset (mi 0 rfl) ?_
  refine ex_aload_n ok_X3_reset (mi 1 rfl) rfl ?_
  refine ex_getIx ok_X3_reset (mi 2 rfl) rfl rfl (sh_k h 0 rfl) hv ?_
  refine ex_ishr ok_X3_reset (mi 3 rfl) ?_
  refine ex_iconst ok_X3_reset (mi 4 rfl) ?_
  refine ex_iand ok_X3_reset (mi 5 rfl) ?_
  refine ex_if_eq (tgt := 16) ok_X3_reset (mi 6 rfl) rfl (fun h9 => ?_) (fun h9 => False.elim (h9 hc))
  refine ex_iconst ok_X3_reset (mi 9 rfl) ?_
  refine ex_istore_n ok_X3_reset (mi 10 rfl) ?_
  refine ex_aload_n ok_X3_reset (mi 11 rfl) rfl ?_
  refine ex_iload_n ok_X3_reset (mi 12 rfl) rfl ?_
  refine ex_if_eq (tgt := 27) ok_X3_reset (mi 13 rfl) rfl (fun h20 => ?_) (fun h20 => False.elim (absurd (by decide) h20))
  refine ex_iconst ok_X3_reset (mi 16 rfl) ?_
  refine ex_putI ok_X3_reset (mi 17 rfl) rfl (sh_k h 0 rfl) rfl ?_
  refine ex_aload_n ok_X3_reset (mi 18 rfl) rfl ?_
  refine ex_iload_n ok_X3_reset (mi 19 rfl) rfl ?_
  refine ex_if_eq (tgt := 40) ok_X3_reset (mi 20 rfl) rfl (fun h33 => ?_) (fun h33 => False.elim (absurd (by decide) h33))
  refine ex_iconst ok_X3_reset (mi 23 rfl) ?_
  refine ex_putI ok_X3_reset (mi 24 rfl) rfl (kq (sqI sq0) (sh_k h 0 rfl)) rfl ?_
  refine ex_aload_n ok_X3_reset (mi 25 rfl) rfl ?_
  refine ex_iconst ok_X3_reset (mi 26 rfl) ?_
  refine ex_putI ok_X3_reset (mi 27 rfl) rfl (kq (sqI (sqI sq0)) (sh_k h 0 rfl)) rfl ?_
  refine ex_aload_n ok_X3_reset (mi 28 rfl) rfl ?_
  refine ex_iconst ok_X3_reset (mi 29 rfl) ?_
  refine ex_putI ok_X3_reset (mi 30 rfl) rfl (kq (sqI (sqI (sqI sq0))) (sh_k h 0 rfl)) rfl ?_
  refine ex_aload_n ok_X3_reset (mi 31 rfl) rfl ?_
  refine ex_getRx ok_X3_reset (mi 32 rfl) rfl rfl (kq (sqI (sqI (sqI (sqI sq0)))) (sh_k h 0 rfl)) (rq (sqI (sqI (sqI (sqI sq0)))) (sh_r h 0 rfl)) (kq (sqI (sqI (sqI (sqI sq0)))) (sh_k h 1 rfl)) (by decide) ?_
  refine ex_callSr ok_X3_reset (mi 33 rfl) rfl (m_X7_empty hst (kq (sqI (sqI (sqI (sqI sq0)))) (sh_k h 1 rfl)) (nq (sqI (sqI (sqI (sqI sq0)))) (sh_n h 1 rfl)) (by decide) (by decide)) rfl rfl rfl (by decide) (Nat.le_of_ble_eq_true rfl) (by decide) ?_
  refine ex_aload_n ok_X3_reset (mi 34 rfl) rfl ?_
  refine ex_callVr ok_X3_reset (mi 35 rfl) rfl (m_X3_forgetReform hst (shq (sqF (sqI (sqI (sqI (sqI sq0))))) h)) rfl (kq (sqF (sqI (sqI (sqI (sqI sq0))))) (sh_k h 0 rfl)) rfl rfl (by decide) (by decide) (Nat.le_of_ble_eq_true rfl) (by decide) ?_
  refine ex_vret ok_X3_reset (mi 36 rfl) rfl ?_
  exact ⟨rfl, rfl⟩
