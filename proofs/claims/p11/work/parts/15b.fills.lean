/-! ===== the library's fills of longs and of stretches; the resets, exact ===== -/
theorem lp_fillL {G : GE} {d mc ms a N : Nat} {v : Int64} {g : GT} {Q : RT → GT → Prop} (hk : gx_K g a = 51) (hN : gx_N g a = N) (hb : N < 2 ^ 31) (hq : Q (.inl none) (px_FL g a 0 N v)) :
    ∀ n i : Nat, i + n = N → ex_W G d mc ms M_J7_fill_d0a16 6 [(0, .ref a), (1, .long v), (3, .int (nI i)), (4, .int (nI N))] [] (px_FL g a 0 i v) Q := by
  intro n
  induction n with
  | zero =>
    intro i hi
    obtain rfl : i = N := by omega
    refine ex_iload_n ok_J7_fill_d0a16 (mi 5 rfl) rfl ?_
    refine ex_iload ok_J7_fill_d0a16 (mi 6 rfl) rfl ?_
    refine ex_icmp_ge (tgt := 22) ok_J7_fill_d0a16 (mi 7 rfl) rfl (fun h9 => ?_) (fun h9 => False.elim (h9 (nI_le (Nat.le_refl _) hb)))
    refine ex_vret ok_J7_fill_d0a16 (mi 14 rfl) rfl ?_
    exact hq
  | succ n ih =>
    intro i hi
    refine ex_iload_n ok_J7_fill_d0a16 (mi 5 rfl) rfl ?_
    refine ex_iload ok_J7_fill_d0a16 (mi 6 rfl) rfl ?_
    refine ex_icmp_ge (tgt := 22) ok_J7_fill_d0a16 (mi 7 rfl) rfl (fun h9 => False.elim (nI_ge (by omega) hb h9)) (fun h9 => ?_)
    refine ex_aload_n ok_J7_fill_d0a16 (mi 8 rfl) rfl ?_
    refine ex_iload_n ok_J7_fill_d0a16 (mi 9 rfl) rfl ?_
    refine ex_lload_n ok_J7_fill_d0a16 (mi 10 rfl) rfl ?_
    refine ex_last ok_J7_fill_d0a16 (mi 11 rfl) hk (by rw [show gx_N (px_FL g a 0 i v) a = N from hN]; exact vp_in_nI (by omega) hb) ?_
    refine ex_iinc ok_J7_fill_d0a16 (mi 12 rfl) rfl ?_
    refine ex_goto (tgt := 6) ok_J7_fill_d0a16 (mi 13 rfl) rfl ?_
    rw [nI_clamp (by omega), px_FL_s _ _ _ _ _ (Nat.zero_le _)]
    exact ex_ls (ls' := [(0, .ref a), (1, .long v), (3, .int (nI (i + 1))), (4, .int (nI N))]) ⟨rfl, rfl, by rw [nI_succ]; rfl, rfl, trivial⟩ (ih (i + 1) (by omega))
theorem m_J7_fill_d0a16 {G : GE} (hst : (ge_l G).stackTraces = false) {a N : Nat} {v : Int64} {g : GT} (hk : gx_K g a = 51) (hN : gx_N g a = N) (hb : N < 2 ^ 31) : ex_M G 1 0 0 my_J7_fill_d0a16 [.ref a, .long v] g (rv none (px_FL g a 0 N v)) := by
  refine ex_M_of ok_J7_fill_d0a16 cw_J7_fill_d0a16 rfl hst (Nat.le_of_ble_eq_true rfl) ?_
  refine ex_iconst ok_J7_fill_d0a16 (mi 0 rfl) ?_
  refine ex_istore_n ok_J7_fill_d0a16 (mi 1 rfl) ?_
  refine ex_aload_n ok_J7_fill_d0a16 (mi 2 rfl) rfl ?_
  refine ex_alen ok_J7_fill_d0a16 (mi 3 rfl) (Or.inr (Or.inl hk)) ?_
  rw [hN]
  refine ex_istore ok_J7_fill_d0a16 (mi 4 rfl) ?_
  have h := lp_fillL (G := G) (d := 1) (mc := 0) (ms := 0) (v := v) (Q := rv none (px_FL g a 0 N v)) hk hN hb ⟨rfl, rfl⟩ N 0 (Nat.zero_add N)
  rw [px_FL_0] at h
  exact ex_ls (ls' := [(0, .ref a), (1, .long v), (3, .int (nI 0)), (4, .int (nI N))]) ⟨rfl, rfl, rfl, rfl, trivial⟩ h
theorem m_J7_rangeCheck_23922 {G : GE} (hst : (ge_l G).stackTraces = false) {N lo hi : Nat} {g : GT} (h1 : lo ≤ hi) (h2 : hi ≤ N) (hb : N < 2 ^ 31) : ex_M G 1 0 0 my_J7_rangeCheck_23922 [.int (nI N), .int (nI lo), .int (nI hi)] g (rv none g) := by
  refine ex_M_of ok_J7_rangeCheck_23922 cw_J7_rangeCheck_23922 rfl hst (Nat.le_of_ble_eq_true rfl) ?_
  refine ex_iload_n ok_J7_rangeCheck_23922 (mi 0 rfl) rfl ?_
  refine ex_iload_n ok_J7_rangeCheck_23922 (mi 1 rfl) rfl ?_
  refine ex_icmp_le (tgt := 46) ok_J7_rangeCheck_23922 (mi 2 rfl) rfl (fun h9 => ?_) (fun h9 => False.elim (h9 (nI_le h1 (by omega))))
  refine ex_iload_n ok_J7_rangeCheck_23922 (mi 3 rfl) rfl ?_
  refine ex_if_ge (tgt := 59) ok_J7_rangeCheck_23922 (mi 4 rfl) rfl (fun h47 => ?_) (fun h47 => False.elim (h47 (nI_pos' (by omega))))
  refine ex_iload_n ok_J7_rangeCheck_23922 (mi 5 rfl) rfl ?_
  refine ex_iload_n ok_J7_rangeCheck_23922 (mi 6 rfl) rfl ?_
  refine ex_icmp_le (tgt := 73) ok_J7_rangeCheck_23922 (mi 7 rfl) rfl (fun h61 => ?_) (fun h61 => False.elim (h61 (nI_le h2 hb)))
  refine ex_vret ok_J7_rangeCheck_23922 (mi 8 rfl) rfl ?_
  exact ⟨rfl, rfl⟩
theorem lp_fillR {G : GE} {d mc ms a N lo hi : Nat} {v : Int32} {g : GT} {Q : RT → GT → Prop} (hk : gx_K g a = 50) (hN : gx_N g a = N) (h2 : hi ≤ N) (hb : N < 2 ^ 31) (hq : Q (.inl none) (px_F g a lo hi v)) :
    ∀ n i : Nat, i + n = hi → lo ≤ i → ex_W G d mc ms M_J7_fill_fda19 10 [(0, .ref a), (2, .int (nI hi)), (3, .int v), (4, .int (nI i))] [] (px_F g a lo i v) Q := by
  intro n
  induction n with
  | zero =>
    intro i hi0 hlo
    obtain rfl : i = hi := by omega
    refine ex_iload ok_J7_fill_fda19 (mi 7 rfl) rfl ?_
    refine ex_iload_n ok_J7_fill_fda19 (mi 8 rfl) rfl ?_
    refine ex_icmp_ge (tgt := 27) ok_J7_fill_fda19 (mi 9 rfl) rfl (fun h13 => ?_) (fun h13 => False.elim (h13 (nI_le (Nat.le_refl _) (by omega))))
    refine ex_vret ok_J7_fill_fda19 (mi 16 rfl) rfl ?_
    exact hq
  | succ n ih =>
    intro i hi0 hlo
    refine ex_iload ok_J7_fill_fda19 (mi 7 rfl) rfl ?_
    refine ex_iload_n ok_J7_fill_fda19 (mi 8 rfl) rfl ?_
    refine ex_icmp_ge (tgt := 27) ok_J7_fill_fda19 (mi 9 rfl) rfl (fun h13 => False.elim (nI_ge (by omega) (by omega) h13)) (fun h13 => ?_)
    refine ex_aload_n ok_J7_fill_fda19 (mi 10 rfl) rfl ?_
    refine ex_iload ok_J7_fill_fda19 (mi 11 rfl) rfl ?_
    refine ex_iload_n ok_J7_fill_fda19 (mi 12 rfl) rfl ?_
    refine ex_iast ok_J7_fill_fda19 (mi 13 rfl) hk (by rw [show gx_N (px_F g a lo i v) a = N from hN]; exact vp_in_nI (by omega) hb) ?_
    refine ex_iinc ok_J7_fill_fda19 (mi 14 rfl) rfl ?_
    refine ex_goto (tgt := 10) ok_J7_fill_fda19 (mi 15 rfl) rfl ?_
    rw [nI_clamp (by omega), px_F_s _ _ _ _ _ hlo]
    exact ex_ls (ls' := [(0, .ref a), (2, .int (nI hi)), (3, .int v), (4, .int (nI (i + 1)))]) ⟨rfl, rfl, rfl, by rw [nI_succ]; rfl, trivial⟩ (ih (i + 1) (by omega) (by omega))
theorem m_J7_fill_fda19 {G : GE} (hst : (ge_l G).stackTraces = false) {a N lo hi : Nat} {v : Int32} {g : GT} (hk : gx_K g a = 50) (hN : gx_N g a = N) (h1 : lo ≤ hi) (h2 : hi ≤ N) (hb : N < 2 ^ 31) : ex_M G 2 0 0 my_J7_fill_fda19 [.ref a, .int (nI lo), .int (nI hi), .int v] g (rv none (px_F g a lo hi v)) := by
  refine ex_M_of ok_J7_fill_fda19 cw_J7_fill_fda19 rfl hst (Nat.le_of_ble_eq_true rfl) ?_
  refine ex_aload_n ok_J7_fill_fda19 (mi 0 rfl) rfl ?_
  refine ex_alen ok_J7_fill_fda19 (mi 1 rfl) (Or.inl hk) ?_
  rw [hN]
  refine ex_iload_n ok_J7_fill_fda19 (mi 2 rfl) rfl ?_
  refine ex_iload_n ok_J7_fill_fda19 (mi 3 rfl) rfl ?_
  refine ex_callSr ok_J7_fill_fda19 (mi 4 rfl) rfl (m_J7_rangeCheck_23922 hst h1 h2 hb) rfl rfl rfl (by decide) (Nat.le_of_ble_eq_true rfl) (by decide) ?_
  refine ex_iload_n ok_J7_fill_fda19 (mi 5 rfl) rfl ?_
  refine ex_istore ok_J7_fill_fda19 (mi 6 rfl) ?_
  have h := lp_fillR (G := G) (d := 2) (mc := 0) (ms := 0) (v := v) (Q := rv none (px_F g a lo hi v)) hk hN h2 hb ⟨rfl, rfl⟩ (hi - lo) lo (by omega) (Nat.le_refl _)
  rw [px_F_0] at h
  exact ex_ls (ls' := [(0, .ref a), (2, .int (nI hi)), (3, .int v), (4, .int (nI lo))]) ⟨rfl, rfl, rfl, rfl, trivial⟩ h
