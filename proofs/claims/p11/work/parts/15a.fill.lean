/-! ===== the library's fills ===== -/
theorem lp_fill {G : GE} {d mc ms a N : Nat} {v : Int32} {g : GT} {Q : RT → GT → Prop} (hk : gx_K g a = 50) (hN : gx_N g a = N) (hb : N < 2 ^ 31) (hq : Q (.inl none) (px_F g a 0 N v)) :
    ∀ n i : Nat, i + n = N → ex_W G d mc ms M_J7_fill_53178 5 [(0, .ref a), (1, .int v), (2, .int (nI i)), (3, .int (nI N))] [] (px_F g a 0 i v) Q := by
  intro n
  induction n with
  | zero =>
    intro i hi
    obtain rfl : i = N := by omega
    refine ex_iload_n ok_J7_fill_53178 (mi 5 rfl) rfl ?_
    refine ex_iload_n ok_J7_fill_53178 (mi 6 rfl) rfl ?_
    refine ex_icmp_ge (tgt := 20) ok_J7_fill_53178 (mi 7 rfl) rfl (fun h7 => ?_) (fun h7 => False.elim (h7 (nI_le (Nat.le_refl _) hb)))
    refine ex_vret ok_J7_fill_53178 (mi 14 rfl) rfl ?_
    exact hq
  | succ n ih =>
    intro i hi
    refine ex_iload_n ok_J7_fill_53178 (mi 5 rfl) rfl ?_
    refine ex_iload_n ok_J7_fill_53178 (mi 6 rfl) rfl ?_
    refine ex_icmp_ge (tgt := 20) ok_J7_fill_53178 (mi 7 rfl) rfl (fun h7 => False.elim (nI_ge (by omega) hb h7)) (fun h7 => ?_)
    refine ex_aload_n ok_J7_fill_53178 (mi 8 rfl) rfl ?_
    refine ex_iload_n ok_J7_fill_53178 (mi 9 rfl) rfl ?_
    refine ex_iload_n ok_J7_fill_53178 (mi 10 rfl) rfl ?_
    refine ex_iast ok_J7_fill_53178 (mi 11 rfl) hk (by rw [show gx_N (px_F g a 0 i v) a = N from hN]; exact vp_in_nI (by omega) hb) ?_
    refine ex_iinc ok_J7_fill_53178 (mi 12 rfl) rfl ?_
    refine ex_goto (tgt := 5) ok_J7_fill_53178 (mi 13 rfl) rfl ?_
    rw [nI_clamp (by omega), px_F_s _ _ _ _ _ (Nat.zero_le _)]
    exact ex_ls (ls' := [(0, .ref a), (1, .int v), (2, .int (nI (i + 1))), (3, .int (nI N))]) ⟨rfl, rfl, by rw [nI_succ]; rfl, rfl, trivial⟩ (ih (i + 1) (by omega))
theorem m_J7_fill_53178 {G : GE} (hst : (ge_l G).stackTraces = false) {d mc ms a N : Nat} {v : Int32} {g : GT} (hk : gx_K g a = 50) (hN : gx_N g a = N) (hb : N < 2 ^ 31) : ex_M G d mc ms my_J7_fill_53178 [.ref a, .int v] g (rv none (px_F g a 0 N v)) := by
  refine ex_M_of ok_J7_fill_53178 cw_J7_fill_53178 rfl hst (Nat.le_of_ble_eq_true rfl) ?_
  refine ex_iconst ok_J7_fill_53178 (mi 0 rfl) ?_
  refine ex_istore_n ok_J7_fill_53178 (mi 1 rfl) ?_
  refine ex_aload_n ok_J7_fill_53178 (mi 2 rfl) rfl ?_
  refine ex_alen ok_J7_fill_53178 (mi 3 rfl) (Or.inl hk) ?_
  rw [hN]
  refine ex_istore_n ok_J7_fill_53178 (mi 4 rfl) ?_
  have h := lp_fill (G := G) (d := d) (mc := mc) (ms := ms) (v := v) (Q := rv none (px_F g a 0 N v)) hk hN hb ⟨rfl, rfl⟩ N 0 (Nat.zero_add N)
  rw [px_F_0] at h
  exact ex_ls (ls' := [(0, .ref a), (1, .int v), (2, .int (nI 0)), (3, .int (nI N))]) ⟨rfl, rfl, rfl, rfl, trivial⟩ h
