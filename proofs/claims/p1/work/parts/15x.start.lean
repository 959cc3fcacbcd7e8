/-! ===== the law from its start ===== -/
theorem law_run {G : GE} (hst : (ge_l G).stackTraces = false) {s L : Nat} {g : GT} {xs : Nat → Int32} (hs : s < gx_Z g) (hk : gx_K g s = 60) (hn : gx_N g s = L) (hL : L ≤ 4) (ha : ∀ j, j < L → gx_A g s j = xs j) : ex_W G 10 600002 7302232 M_L_law 0 [(0, .ref s)] [] g (fun r _ => r = .inl (some (.int (nI 1)))) := by
  refine ex_new ok_L_law (mL0 0 rfl) rfl (by decide) (by decide) (by rw [show cx_N 11 = 10 from rfl]; decide) ?_
  rw [show cx_N 11 = 10 from rfl]
  refine ex_dup ok_L_law (mL0 1 rfl) rfl ?_
  refine ex_callIp (As := []) ok_L_law (mL0 2 rfl) rfl (m_X11_init hst kNew nNew rfl) rfl rfl rfl rfl (by decide) (Nat.le_of_ble_eq_true rfl) ⟨by decide, by decide⟩ (fun h1 z1 => ?_)
  obtain ⟨f1, y1, w1⟩ := z1
  refine ex_astore_n ok_L_law (mL0 3 rfl) ?_
  refine ex_new ok_L_law (mL0 4 rfl) rfl (by decide) (by decide) (by rw [show cx_N 12 = 67 from rfl]; decide) ?_
  rw [show cx_N 12 = 67 from rfl]
  refine ex_dup ok_L_law (mL0 5 rfl) rfl ?_
  refine ex_callIp (As := []) ok_L_law (mL0 6 rfl) rfl (m_X12_init hst kNew nNew rfl) rfl rfl rfl rfl (by decide) (Nat.le_of_ble_eq_true rfl) ⟨by decide, by decide⟩ (fun h2 z2 => ?_)
  obtain ⟨f2, y2, w2⟩ := z2
  refine ex_astore_n ok_L_law (mL0 7 rfl) ?_
  refine ex_iconst ok_L_law (mL0 8 rfl) ?_
  refine ex_newa (N := 1) ok_L_law (mL0 9 rfl) (Or.inr (Or.inl ⟨rfl, rfl⟩)) (by decide) (by decide) (by decide) hw_L (by decide) (by decide) ?_
  refine ex_astore_n ok_L_law (mL0 10 rfl) ?_
  refine ex_iconst ok_L_law (mL0 11 rfl) ?_
  refine ex_istore ok_L_law (mL0 12 rfl) ?_
  rw [y1] at f2 y2 w2 ⊢
  rw [y2]
  refine ex_ls (ls' := [(0, .ref s), (1, .ref (gx_Z g)), (2, .ref (gx_Z g + 892)), (3, .ref (gx_Z g + 892 + 60)), (4, .int (nI 0))]) ⟨rfl, rfl, rfl, rfl, rfl, trivial⟩ ?_
  have v3 : ∀ q, q < gx_Z g + 892 + 60 → sm h2 (px_N h2 51 1) q := fun q hq => (gwN (a := gx_Z h2)).2 q (by omega) (by omega)
  have v2 : ∀ q, q < gx_Z g + 892 → sm h1 h2 q := fun q hq => ((gwN (g := h1) (k := 13) (n := 0) (a := gx_Z h1)).2 q (by omega) (by omega)).trans (w2 q hq)
  have v1 : ∀ q, q < gx_Z g → sm g h1 q := fun q hq => ((gwN (g := g) (k := 12) (n := 0) (a := gx_Z g)).2 q hq (by omega)).trans (w1 q hq)
  have vs := ((v1 s hs).trans (v2 s (by omega))).trans (v3 s (by omega))
  have ks := vs.1.trans hk
  have ns := vs.2.1.trans hn
  have fr : FR (px_N h2 51 1) (gx_Z g) := FR_sm (fun q _ hq => (v2 q (by omega)).trans (v3 q (by omega))) f1
  have fm : FM (px_N h2 51 1) (gx_Z g + 892) := FM_sm (fun q _ hq => v3 q (by omega)) f2
  have ko : gx_K (px_N h2 51 1) (gx_Z g + 892 + 60) = 51 := by rw [← y2]; exact kNew
  have no : gx_N (px_N h2 51 1) (gx_Z g + 892 + 60) = 1 := by rw [← y2]; exact nNew
  generalize hx : gx_Z g = x at *
  refine ex_iload ok_L_law (mL0 13 rfl) rfl ?_
  refine ex_aload_n ok_L_law (mL0 14 rfl) rfl ?_
  refine ex_alenx ok_L_law (mL0 15 rfl) (Or.inr (Or.inr ks)) ns ?_
  refine ex_iconst ok_L_law (mL0 16 rfl) ?_
  refine ex_isub ok_L_law (mL0 17 rfl) ?_
  by_cases hl : L = 4
  · subst hl
    refine ex_top (w := nI 0) (by decide) ?_
    refine ex_icmp_gt (tgt := 1551) ok_L_law (mL0 18 rfl) rfl (fun hn => absurd hn (by decide)) (fun _ => ?_)
    refine ex_aload_n ok_L_law (mL0 19 rfl) rfl ?_
    refine ex_iload ok_L_law (mL0 20 rfl) rfl ?_
    refine ex_ialdx ok_L_law (mL0 21 rfl) (Or.inr ks) ns (pk_in 0 4 (by decide)) ((vs.2.2.2.2.1 0).trans (ha 0 (by decide))) ?_
    refine ex_bipush ok_L_law (mL0 22 rfl) ?_
    refine ex_iand ok_L_law (mL0 23 rfl) ?_
    obtain ⟨c, hc, ec⟩ := vp_in_of (pk_andIn (xs 0) (m := (Int8.ofInt 31).toInt32) 5 (by decide) (by decide)) (by decide)
    refine ex_top ec ?_
    have w : LW (px_N h2 51 1) x s xs := ⟨fr, fm, ko, no, hs, ks, ns, fun j hj => (vs.2.2.2.2.1 j).trans (ha j hj)⟩
    have hc : c < 32 := hc
    rcases (by omega : c = 0 ∨ c = 1 ∨ c = 2 ∨ c = 3 ∨ c = 4 ∨ c = 5 ∨ c = 6 ∨ c = 7 ∨ c = 8 ∨ c = 9 ∨ c = 10 ∨ c = 11 ∨ c = 12 ∨ c = 13 ∨ c = 14 ∨ c = 15 ∨ c = 16 ∨ c = 17 ∨ c = 18 ∨ c = 19 ∨ c = 20 ∨ c = 21 ∨ c = 22 ∨ c = 23 ∨ c = 24 ∨ c = 25 ∨ c = 26 ∨ c = 27 ∨ c = 28 ∨ c = 29 ∨ c = 30 ∨ c = 31) with rfl | rfl | rfl | rfl | rfl | rfl | rfl | rfl | rfl | rfl | rfl | rfl | rfl | rfl | rfl | rfl | rfl | rfl | rfl | rfl | rfl | rfl | rfl | rfl | rfl | rfl | rfl | rfl | rfl | rfl | rfl | rfl
    · refine ex_tblk (tgt := 136) ok_L_law (mL0 24 rfl) (by decide) (by decide) (by decide) (by decide) ?_
      exact w_begin hst w (by decide) (by decide) (fun _ => rfl)
    · refine ex_tblk (tgt := 216) ok_L_law (mL0 24 rfl) (by decide) (by decide) (by decide) (by decide) ?_
      exact w_propose hst w (by decide) (by decide) (fun _ => rfl)
    · refine ex_tblk (tgt := 284) ok_L_law (mL0 24 rfl) (by decide) (by decide) (by decide) (by decide) ?_
      exact w_collect hst w (by decide) (by decide) (fun _ => rfl)
    · refine ex_tblk (tgt := 347) ok_L_law (mL0 24 rfl) (by decide) (by decide) (by decide) (by decide) ?_
      exact w_reform hst w (by decide) (by decide) (fun _ => rfl)
    · refine ex_tblk (tgt := 427) ok_L_law (mL0 24 rfl) (by decide) (by decide) (by decide) (by decide) ?_
      exact w_again hst w (by decide) (by decide) (fun _ => rfl)
    · refine ex_tblk (tgt := 483) ok_L_law (mL0 24 rfl) (by decide) (by decide) (by decide) (by decide) ?_
      exact w_deliver hst w (by decide) (by decide) (fun _ => rfl)
    · refine ex_tblk (tgt := 539) ok_L_law (mL0 24 rfl) (by decide) (by decide) (by decide) (by decide) ?_
      exact w_run hst w (by decide) (by decide) (fun _ => rfl)
    · refine ex_tblk (tgt := 595) ok_L_law (mL0 24 rfl) (by decide) (by decide) (by decide) (by decide) ?_
      exact w_lose hst w (by decide) (by decide) (fun _ => rfl)
    · refine ex_tblk (tgt := 651) ok_L_law (mL0 24 rfl) (by decide) (by decide) (by decide) (by decide) ?_
      exact w_twice hst w (by decide) (by decide) (fun _ => rfl)
    · refine ex_tblk (tgt := 707) ok_L_law (mL0 24 rfl) (by decide) (by decide) (by decide) (by decide) ?_
      exact w_up hst w (by decide) (by decide) (fun _ => rfl)
    · refine ex_tblk (tgt := 810) ok_L_law (mL0 24 rfl) (by decide) (by decide) (by decide) (by decide) ?_
      exact w_message hst w (by decide) (by decide) (fun _ => rfl)
    · refine ex_tblk (tgt := 878) ok_L_law (mL0 24 rfl) (by decide) (by decide) (by decide) (by decide) ?_
      exact w_leader hst w (by decide) (by decide) (fun _ => rfl)
    · refine ex_tblk (tgt := 946) ok_L_law (mL0 24 rfl) (by decide) (by decide) (by decide) (by decide) ?_
      exact w_slot hst w (by decide) (by decide) (fun _ => rfl)
    · refine ex_tblk (tgt := 1026) ok_L_law (mL0 24 rfl) (by decide) (by decide) (by decide) (by decide) ?_
      exact w_keeper hst w (by decide) (by decide) (fun _ => rfl)
    · refine ex_tblk (tgt := 1094) ok_L_law (mL0 24 rfl) (by decide) (by decide) (by decide) (by decide) ?_
      exact w_entry hst w (by decide) (by decide) (fun _ => rfl)
    · refine ex_tblk (tgt := 1190) ok_L_law (mL0 24 rfl) (by decide) (by decide) (by decide) (by decide) ?_
      exact w_voter hst w (by decide) (by decide) (fun _ => rfl)
    · refine ex_tblk (tgt := 1258) ok_L_law (mL0 24 rfl) (by decide) (by decide) (by decide) (by decide) ?_
      exact w_vote hst w (by decide) (by decide) (fun _ => rfl)
    · refine ex_tblk (tgt := 1354) ok_L_law (mL0 24 rfl) (by decide) (by decide) (by decide) (by decide) ?_
      exact w_copy hst w (by decide) (by decide) (fun _ => rfl)
    · refine ex_tblk (tgt := 1422) ok_L_law (mL0 24 rfl) (by decide) (by decide) (by decide) (by decide) ?_
      exact w_agreed hst w (by decide) (by decide) (fun _ => rfl)
    · refine ex_tblk (tgt := 1478) ok_L_law (mL0 24 rfl) (by decide) (by decide) (by decide) (by decide) ?_
      exact w_count hst w (by decide) (by decide) (fun _ => rfl)
    · refine ex_tblk (tgt := 1534) ok_L_law (mL0 24 rfl) (by decide) (by decide) (by decide) (by decide) ?_
      exact w_clear hst w (fun _ => rfl)
    · refine ex_tblk (tgt := 1545) ok_L_law (mL0 24 rfl) (by decide) (by decide) (by decide) (by decide) ?_
      exact ex_ls (ls' := [(0, .ref s), (4, .int (nI 0))]) ⟨rfl, rfl, trivial⟩ (lw_end ks ns rfl)
    · refine ex_tblk (tgt := 1545) ok_L_law (mL0 24 rfl) (by decide) (by decide) (by decide) (by decide) ?_
      exact ex_ls (ls' := [(0, .ref s), (4, .int (nI 0))]) ⟨rfl, rfl, trivial⟩ (lw_end ks ns rfl)
    · refine ex_tblk (tgt := 1545) ok_L_law (mL0 24 rfl) (by decide) (by decide) (by decide) (by decide) ?_
      exact ex_ls (ls' := [(0, .ref s), (4, .int (nI 0))]) ⟨rfl, rfl, trivial⟩ (lw_end ks ns rfl)
    · refine ex_tblk (tgt := 1545) ok_L_law (mL0 24 rfl) (by decide) (by decide) (by decide) (by decide) ?_
      exact ex_ls (ls' := [(0, .ref s), (4, .int (nI 0))]) ⟨rfl, rfl, trivial⟩ (lw_end ks ns rfl)
    · refine ex_tblk (tgt := 1545) ok_L_law (mL0 24 rfl) (by decide) (by decide) (by decide) (by decide) ?_
      exact ex_ls (ls' := [(0, .ref s), (4, .int (nI 0))]) ⟨rfl, rfl, trivial⟩ (lw_end ks ns rfl)
    · refine ex_tblk (tgt := 1545) ok_L_law (mL0 24 rfl) (by decide) (by decide) (by decide) (by decide) ?_
      exact ex_ls (ls' := [(0, .ref s), (4, .int (nI 0))]) ⟨rfl, rfl, trivial⟩ (lw_end ks ns rfl)
    · refine ex_tblk (tgt := 1545) ok_L_law (mL0 24 rfl) (by decide) (by decide) (by decide) (by decide) ?_
      exact ex_ls (ls' := [(0, .ref s), (4, .int (nI 0))]) ⟨rfl, rfl, trivial⟩ (lw_end ks ns rfl)
    · refine ex_tblk (tgt := 1545) ok_L_law (mL0 24 rfl) (by decide) (by decide) (by decide) (by decide) ?_
      exact ex_ls (ls' := [(0, .ref s), (4, .int (nI 0))]) ⟨rfl, rfl, trivial⟩ (lw_end ks ns rfl)
    · refine ex_tblk (tgt := 1545) ok_L_law (mL0 24 rfl) (by decide) (by decide) (by decide) (by decide) ?_
      exact ex_ls (ls' := [(0, .ref s), (4, .int (nI 0))]) ⟨rfl, rfl, trivial⟩ (lw_end ks ns rfl)
    · refine ex_tblk (tgt := 1545) ok_L_law (mL0 24 rfl) (by decide) (by decide) (by decide) (by decide) ?_
      exact ex_ls (ls' := [(0, .ref s), (4, .int (nI 0))]) ⟨rfl, rfl, trivial⟩ (lw_end ks ns rfl)
    · refine ex_tblk (tgt := 1545) ok_L_law (mL0 24 rfl) (by decide) (by decide) (by decide) (by decide) ?_
      exact ex_ls (ls' := [(0, .ref s), (4, .int (nI 0))]) ⟨rfl, rfl, trivial⟩ (lw_end ks ns rfl)
  · rcases (by omega : L = 0 ∨ L = 1 ∨ L = 2 ∨ L = 3) with rfl | rfl | rfl | rfl
    · refine ex_top (w := (-4)) (by decide) ?_
      refine ex_icmp_gt (tgt := 1551) ok_L_law (mL0 18 rfl) rfl (fun _ => ?_) (fun hn => absurd (by decide) hn)
      refine ex_iconst ok_L_law (mL15 42 rfl) ?_
      refine ex_zret ok_L_law (mL15 43 rfl) rfl (by decide) ?_
      exact rfl
    · refine ex_top (w := (-3)) (by decide) ?_
      refine ex_icmp_gt (tgt := 1551) ok_L_law (mL0 18 rfl) rfl (fun _ => ?_) (fun hn => absurd (by decide) hn)
      refine ex_iconst ok_L_law (mL15 42 rfl) ?_
      refine ex_zret ok_L_law (mL15 43 rfl) rfl (by decide) ?_
      exact rfl
    · refine ex_top (w := (-2)) (by decide) ?_
      refine ex_icmp_gt (tgt := 1551) ok_L_law (mL0 18 rfl) rfl (fun _ => ?_) (fun hn => absurd (by decide) hn)
      refine ex_iconst ok_L_law (mL15 42 rfl) ?_
      refine ex_zret ok_L_law (mL15 43 rfl) rfl (by decide) ?_
      exact rfl
    · refine ex_top (w := (-1)) (by decide) ?_
      refine ex_icmp_gt (tgt := 1551) ok_L_law (mL0 18 rfl) rfl (fun _ => ?_) (fun hn => absurd (by decide) hn)
      refine ex_iconst ok_L_law (mL15 42 rfl) ?_
      refine ex_zret ok_L_law (mL15 43 rfl) rfl (by decide) ?_
      exact rfl
