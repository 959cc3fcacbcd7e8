/-! ===== lay ===== -/
def LV (y : Nat) (D : UT) (c : Nat) (R : Nat → Prop) (κ : Nat) : RT → GT → Prop := fun r g => ∃ b, r = .inl (some (.int b)) ∧ (b = 0 ∨ b = 1) ∧ MI y D c R g ∧ (b ≠ 0 → ∃ t, t < 402 ∧ gx_I g 1258 y = nI t ∧ MK y g t κ 0)
theorem kb_n {κ : Nat} (h : κ < 25) : 0 < (kb κ).2.2.2.2.2.2 := by
  have : ∀ κ, κ < 25 → 0 < (kb κ).2.2.2.2.2.2 := by decide
  exact this κ h
theorem lay46 {G : GE} (hst : (ge_l G).stackTraces = false) {y c A : Nat} {D : UT} {R : Nat → Prop} {g : GT} {κ : Nat} {p1 p2 p3 p4 p5 : Int32} (hA : A < 400) (ha : gx_I g 1248 y = nI A) (h0 : MC y D (fun j => j = c) (fun _ => False) R (fun p => p < A) g) (hκ : κ < 25) (h1 : vb p1 (kb κ).2.1) (h2 : vb p2 (kb κ).1) (h3 : vb p3 (kb κ).2.2.1) (h4 : vb p4 (kb κ).2.2.2.1) (h5 : vb p5 (kb κ).2.2.2.2.1) {t : Nat} (ht : t < 402) : ex_W G 1 0 0 M_X12_lay 46 [(0, .ref y), (1, .int (nI κ)), (2, .int p1), (3, .int p2), (4, .int p3), (5, .int p4), (6, .int p5), (7, .int (nI t))] [] g (LV y D c R κ) := by
  have s0 := h0.1
  obtain ⟨a1, a2⟩ : A < 400 ∧ A ≠ 400 := ⟨hA, by omega⟩
  refine ex_aload_n ok_X12_lay (mi 24 rfl) rfl ?_
  refine ex_getRx ok_X12_lay (mi 25 rfl) rfl rfl (fk s0 0 rfl) (fr s0 48 rfl) (fk s0 49 rfl) (by decide) ?_
  refine ex_iload ok_X12_lay (mi 26 rfl) rfl ?_
  refine ex_iconst ok_X12_lay (mi 27 rfl) ?_
  refine sm_bast ok_X12_lay (mi 28 rfl) (fk s0 49 rfl) (fn s0 49 rfl) rfl (by omega) (by decide) (Or.inr (by decide)) ?_
  have s1 : sh T12 (px_A g (y + 49) (t) (Int32.ofInt 1)) y := shq (sqA sq0) s0
  refine ex_aload_n ok_X12_lay (mi 29 rfl) rfl ?_
  refine ex_getRx ok_X12_lay (mi 30 rfl) rfl rfl (fk s1 0 rfl) (fr s1 47 rfl) (fk s1 48 rfl) (by decide) ?_
  refine ex_aload_n ok_X12_lay (mi 31 rfl) rfl ?_
  refine ex_getI ok_X12_lay (mi 32 rfl) rfl rfl (fk s1 0 rfl) ?_
  refine ex_top (w := nI A) ha ?_
  refine ex_iload ok_X12_lay (mi 33 rfl) rfl ?_
  refine sm_iast ok_X12_lay (mi 34 rfl) (fk s1 48 rfl) (fn s1 48 rfl) rfl (by omega) (by decide) ?_
  have s2 : sh T12 (px_A (px_A g (y + 49) (t) (Int32.ofInt 1)) (y + 48) (A) (nI (t))) y := shq (sqA sq0) s1
  refine ex_aload_n ok_X12_lay (mi 35 rfl) rfl ?_
  refine ex_dup ok_X12_lay (mi 36 rfl) rfl ?_
  refine ex_getI ok_X12_lay (mi 37 rfl) rfl rfl (fk s2 0 rfl) ?_
  refine ex_top (w := nI A) ha ?_
  refine ex_iconst ok_X12_lay (mi 38 rfl) ?_
  refine ex_iadd ok_X12_lay (mi 39 rfl) ?_
  refine ex_top (w := nI (A + 1)) (nI_add _ 1) ?_
  refine ex_putI ok_X12_lay (mi 40 rfl) rfl (fk s2 0 rfl) rfl ?_
  have s3 : sh T12 (px_I (px_A (px_A g (y + 49) (t) (Int32.ofInt 1)) (y + 48) (A) (nI (t))) 1248 y (nI (A + 1))) y := shq (sqI sq0) s2
  refine ex_aload_n ok_X12_lay (mi 41 rfl) rfl ?_
  refine ex_getRx ok_X12_lay (mi 42 rfl) rfl rfl (fk s3 0 rfl) (fr s3 49 rfl) (fk s3 50 rfl) (by decide) ?_
  refine ex_iload ok_X12_lay (mi 43 rfl) rfl ?_
  refine ex_iload_n ok_X12_lay (mi 44 rfl) rfl ?_
  refine sm_iast ok_X12_lay (mi 45 rfl) (fk s3 50 rfl) (fn s3 50 rfl) rfl (by omega) (by decide) ?_
  have s4 : sh T12 (px_A (px_I (px_A (px_A g (y + 49) (t) (Int32.ofInt 1)) (y + 48) (A) (nI (t))) 1248 y (nI (A + 1))) (y + 50) (t) (nI κ)) y := shq (sqA sq0) s3
  refine ex_aload_n ok_X12_lay (mi 46 rfl) rfl ?_
  refine ex_getRx ok_X12_lay (mi 47 rfl) rfl rfl (fk s4 0 rfl) (fr s4 50 rfl) (fk s4 51 rfl) (by decide) ?_
  refine ex_iload ok_X12_lay (mi 48 rfl) rfl ?_
  refine ex_iload_n ok_X12_lay (mi 49 rfl) rfl ?_
  refine sm_iast ok_X12_lay (mi 50 rfl) (fk s4 51 rfl) (fn s4 51 rfl) rfl (by omega) (by decide) ?_
  have s5 : sh T12 (px_A (px_A (px_I (px_A (px_A g (y + 49) (t) (Int32.ofInt 1)) (y + 48) (A) (nI (t))) 1248 y (nI (A + 1))) (y + 50) (t) (nI κ)) (y + 51) (t) p1) y := shq (sqA sq0) s4
  refine ex_aload_n ok_X12_lay (mi 51 rfl) rfl ?_
  refine ex_getRx ok_X12_lay (mi 52 rfl) rfl rfl (fk s5 0 rfl) (fr s5 51 rfl) (fk s5 52 rfl) (by decide) ?_
  refine ex_iload ok_X12_lay (mi 53 rfl) rfl ?_
  refine ex_iload_n ok_X12_lay (mi 54 rfl) rfl ?_
  refine sm_iast ok_X12_lay (mi 55 rfl) (fk s5 52 rfl) (fn s5 52 rfl) rfl (by omega) (by decide) ?_
  have s6 : sh T12 (px_A (px_A (px_A (px_I (px_A (px_A g (y + 49) (t) (Int32.ofInt 1)) (y + 48) (A) (nI (t))) 1248 y (nI (A + 1))) (y + 50) (t) (nI κ)) (y + 51) (t) p1) (y + 52) (t) p2) y := shq (sqA sq0) s5
  refine ex_aload_n ok_X12_lay (mi 56 rfl) rfl ?_
  refine ex_getRx ok_X12_lay (mi 57 rfl) rfl rfl (fk s6 0 rfl) (fr s6 52 rfl) (fk s6 53 rfl) (by decide) ?_
  refine ex_iconst ok_X12_lay (mi 58 rfl) ?_
  refine ex_iload ok_X12_lay (mi 59 rfl) rfl ?_
  refine ex_imul ok_X12_lay (mi 60 rfl) ?_
  refine ex_top (w := nI (3 * t)) (nI_mulc rfl) ?_
  refine ex_iload ok_X12_lay (mi 61 rfl) rfl ?_
  refine sm_iast ok_X12_lay (mi 62 rfl) (fk s6 53 rfl) (fn s6 53 rfl) rfl (by omega) (by decide) ?_
  have s7 : sh T12 (px_A (px_A (px_A (px_A (px_I (px_A (px_A g (y + 49) (t) (Int32.ofInt 1)) (y + 48) (A) (nI (t))) 1248 y (nI (A + 1))) (y + 50) (t) (nI κ)) (y + 51) (t) p1) (y + 52) (t) p2) (y + 53) (3 * t) p3) y := shq (sqA sq0) s6
  refine ex_aload_n ok_X12_lay (mi 63 rfl) rfl ?_
  refine ex_getRx ok_X12_lay (mi 64 rfl) rfl rfl (fk s7 0 rfl) (fr s7 52 rfl) (fk s7 53 rfl) (by decide) ?_
  refine ex_iconst ok_X12_lay (mi 65 rfl) ?_
  refine ex_iload ok_X12_lay (mi 66 rfl) rfl ?_
  refine ex_imul ok_X12_lay (mi 67 rfl) ?_
  refine ex_top (w := nI (3 * t)) (nI_mulc rfl) ?_
  refine ex_iconst ok_X12_lay (mi 68 rfl) ?_
  refine ex_iadd ok_X12_lay (mi 69 rfl) ?_
  refine ex_top (w := nI (3 * t + 1)) (nI_add _ 1) ?_
  refine ex_iload ok_X12_lay (mi 70 rfl) rfl ?_
  refine sm_iast ok_X12_lay (mi 71 rfl) (fk s7 53 rfl) (fn s7 53 rfl) rfl (by omega) (by decide) ?_
  have s8 : sh T12 (px_A (px_A (px_A (px_A (px_A (px_I (px_A (px_A g (y + 49) (t) (Int32.ofInt 1)) (y + 48) (A) (nI (t))) 1248 y (nI (A + 1))) (y + 50) (t) (nI κ)) (y + 51) (t) p1) (y + 52) (t) p2) (y + 53) (3 * t) p3) (y + 53) (3 * t + 1) p4) y := shq (sqA sq0) s7
  refine ex_aload_n ok_X12_lay (mi 72 rfl) rfl ?_
  refine ex_getRx ok_X12_lay (mi 73 rfl) rfl rfl (fk s8 0 rfl) (fr s8 52 rfl) (fk s8 53 rfl) (by decide) ?_
  refine ex_iconst ok_X12_lay (mi 74 rfl) ?_
  refine ex_iload ok_X12_lay (mi 75 rfl) rfl ?_
  refine ex_imul ok_X12_lay (mi 76 rfl) ?_
  refine ex_top (w := nI (3 * t)) (nI_mulc rfl) ?_
  refine ex_iconst ok_X12_lay (mi 77 rfl) ?_
  refine ex_iadd ok_X12_lay (mi 78 rfl) ?_
  refine ex_top (w := nI (3 * t + 2)) (nI_add _ 2) ?_
  refine ex_iload ok_X12_lay (mi 79 rfl) rfl ?_
  refine sm_iast ok_X12_lay (mi 80 rfl) (fk s8 53 rfl) (fn s8 53 rfl) rfl (by omega) (by decide) ?_
  have s9 : sh T12 (px_A (px_A (px_A (px_A (px_A (px_A (px_I (px_A (px_A g (y + 49) (t) (Int32.ofInt 1)) (y + 48) (A) (nI (t))) 1248 y (nI (A + 1))) (y + 50) (t) (nI κ)) (y + 51) (t) p1) (y + 52) (t) p2) (y + 53) (3 * t) p3) (y + 53) (3 * t + 1) p4) (y + 53) (3 * t + 2) p5) y := shq (sqA sq0) s8
  refine ex_aload_n ok_X12_lay (mi 81 rfl) rfl ?_
  refine ex_getRx ok_X12_lay (mi 82 rfl) rfl rfl (fk s9 0 rfl) (fr s9 53 rfl) (fk s9 54 rfl) (by decide) ?_
  refine ex_iload ok_X12_lay (mi 83 rfl) rfl ?_
  refine ex_iconst ok_X12_lay (mi 84 rfl) ?_
  refine sm_iast ok_X12_lay (mi 85 rfl) (fk s9 54 rfl) (fn s9 54 rfl) rfl (by omega) (by decide) ?_
  have s10 : sh T12 (px_A (px_A (px_A (px_A (px_A (px_A (px_A (px_I (px_A (px_A g (y + 49) (t) (Int32.ofInt 1)) (y + 48) (A) (nI (t))) 1248 y (nI (A + 1))) (y + 50) (t) (nI κ)) (y + 51) (t) p1) (y + 52) (t) p2) (y + 53) (3 * t) p3) (y + 53) (3 * t + 1) p4) (y + 53) (3 * t + 2) p5) (y + 54) (t) (Int32.ofInt 0)) y := shq (sqA sq0) s9
  refine ex_aload_n ok_X12_lay (mi 86 rfl) rfl ?_
  refine ex_getRx ok_X12_lay (mi 87 rfl) rfl rfl (fk s10 0 rfl) (fr s10 54 rfl) (fk s10 55 rfl) (by decide) ?_
  refine ex_iconst ok_X12_lay (mi 88 rfl) ?_
  refine ex_iload ok_X12_lay (mi 89 rfl) rfl ?_
  refine ex_imul ok_X12_lay (mi 90 rfl) ?_
  refine ex_top (w := nI (2 * t)) (nI_mulc rfl) ?_
  refine ex_iconst ok_X12_lay (mi 91 rfl) ?_
  refine sm_iast ok_X12_lay (mi 92 rfl) (fk s10 55 rfl) (fn s10 55 rfl) rfl (by omega) (by decide) ?_
  have s11 : sh T12 (px_A (px_A (px_A (px_A (px_A (px_A (px_A (px_A (px_I (px_A (px_A g (y + 49) (t) (Int32.ofInt 1)) (y + 48) (A) (nI (t))) 1248 y (nI (A + 1))) (y + 50) (t) (nI κ)) (y + 51) (t) p1) (y + 52) (t) p2) (y + 53) (3 * t) p3) (y + 53) (3 * t + 1) p4) (y + 53) (3 * t + 2) p5) (y + 54) (t) (Int32.ofInt 0)) (y + 55) (2 * t) (Int32.ofInt 0)) y := shq (sqA sq0) s10
  refine ex_aload_n ok_X12_lay (mi 93 rfl) rfl ?_
  refine ex_getRx ok_X12_lay (mi 94 rfl) rfl rfl (fk s11 0 rfl) (fr s11 54 rfl) (fk s11 55 rfl) (by decide) ?_
  refine ex_iconst ok_X12_lay (mi 95 rfl) ?_
  refine ex_iload ok_X12_lay (mi 96 rfl) rfl ?_
  refine ex_imul ok_X12_lay (mi 97 rfl) ?_
  refine ex_top (w := nI (2 * t)) (nI_mulc rfl) ?_
  refine ex_iconst ok_X12_lay (mi 98 rfl) ?_
  refine ex_iadd ok_X12_lay (mi 99 rfl) ?_
  refine ex_top (w := nI (2 * t + 1)) (nI_add _ 1) ?_
  refine ex_iconst ok_X12_lay (mi 100 rfl) ?_
  refine sm_iast ok_X12_lay (mi 101 rfl) (fk s11 55 rfl) (fn s11 55 rfl) rfl (by omega) (by decide) ?_
  have s12 : sh T12 (px_A (px_A (px_A (px_A (px_A (px_A (px_A (px_A (px_A (px_I (px_A (px_A g (y + 49) (t) (Int32.ofInt 1)) (y + 48) (A) (nI (t))) 1248 y (nI (A + 1))) (y + 50) (t) (nI κ)) (y + 51) (t) p1) (y + 52) (t) p2) (y + 53) (3 * t) p3) (y + 53) (3 * t + 1) p4) (y + 53) (3 * t + 2) p5) (y + 54) (t) (Int32.ofInt 0)) (y + 55) (2 * t) (Int32.ofInt 0)) (y + 55) (2 * t + 1) (Int32.ofInt 0)) y := shq (sqA sq0) s11
  refine ex_aload_n ok_X12_lay (mi 102 rfl) rfl ?_
  refine ex_iload ok_X12_lay (mi 103 rfl) rfl ?_
  refine ex_putI ok_X12_lay (mi 104 rfl) rfl (fk s12 0 rfl) rfl ?_
  have s13 : sh T12 (px_I (px_A (px_A (px_A (px_A (px_A (px_A (px_A (px_A (px_A (px_I (px_A (px_A g (y + 49) (t) (Int32.ofInt 1)) (y + 48) (A) (nI (t))) 1248 y (nI (A + 1))) (y + 50) (t) (nI κ)) (y + 51) (t) p1) (y + 52) (t) p2) (y + 53) (3 * t) p3) (y + 53) (3 * t + 1) p4) (y + 53) (3 * t + 2) p5) (y + 54) (t) (Int32.ofInt 0)) (y + 55) (2 * t) (Int32.ofInt 0)) (y + 55) (2 * t + 1) (Int32.ofInt 0)) 1258 y (nI (t))) y := shq (sqI sq0) s12
  refine ex_iconst ok_X12_lay (mi 105 rfl) ?_
  refine ex_zret ok_X12_lay (mi 106 rfl) rfl (by decide) ?_
  have m0 : MC y D (fun j => j = c) (fun j => j = t) R (fun p => p < A) g := MC_w h0 (fun _ _ _ k => k) (fun _ _ _ k => k.elim) (fun _ _ k => Or.inr k)
  have m1 := MC_u (i := t) (v := Int32.ofInt 1) m0
  have m2a := MC_w (C' := fun j => (j ≠ t ∧ j = c) ∨ (j = t ∧ Int32.ofInt 1 ≠ 0)) (E' := fun j => j = t) (R' := R) (P' := fun p => p < A ∧ p ≠ A) m1 (fun _ _ _ k => k.imp id (fun k => k.elim (fun p k => ⟨p, ⟨k.1, by have := k.1; omega⟩, k.2⟩))) (fun _ _ k e => absurd e k) (fun _ _ k => Or.inr k)
  have m2b := MC_o (P := fun p => p < A) (i := A) (v := nI t) m1 (vp_in_nI ht (by decide)) m2a
  have m2 := MC_w (C' := fun j => j = c) (E' := fun j => j = t) (R' := R) (P' := fun p => p < A + 1) m2b (fun j _ _ k => k.elim (fun k => k.elim (fun k => Or.inl k.2) (fun k => Or.inr ⟨A, by omega, by omega, by rw [k.1]; exact pxA_e⟩)) (fun k => k.elim (fun p k => Or.inr ⟨p, by have := k.1.1; omega, k.2⟩))) (fun _ _ k e => absurd e k) (fun _ _ k => Or.inr k)
  have m3 := MC_I (f := 1248) (v := (nI (A + 1))) m2
  have m4 := MC_m (o := 50) (i := t) (a := t) (v := (nI κ)) m3 rfl (by decide) (by decide) (show 1 * t ≤ t ∧ t < 1 * t + 1 by omega)
  have m5 := MC_m (o := 51) (i := t) (a := t) (v := p1) m4 rfl (by decide) (by decide) (show 1 * t ≤ t ∧ t < 1 * t + 1 by omega)
  have m6 := MC_m (o := 52) (i := t) (a := t) (v := p2) m5 rfl (by decide) (by decide) (show 1 * t ≤ t ∧ t < 1 * t + 1 by omega)
  have m7 := MC_m (o := 53) (i := 3 * t) (a := t) (v := p3) m6 rfl (by decide) (by decide) (show 3 * t ≤ 3 * t ∧ 3 * t < 3 * t + 3 by omega)
  have m8 := MC_m (o := 53) (i := 3 * t + 1) (a := t) (v := p4) m7 rfl (by decide) (by decide) (show 3 * t ≤ 3 * t + 1 ∧ 3 * t + 1 < 3 * t + 3 by omega)
  have m9 := MC_m (o := 53) (i := 3 * t + 2) (a := t) (v := p5) m8 rfl (by decide) (by decide) (show 3 * t ≤ 3 * t + 2 ∧ 3 * t + 2 < 3 * t + 3 by omega)
  have m10 := MC_m (o := 54) (i := t) (a := t) (v := (Int32.ofInt 0)) m9 rfl (by decide) (by decide) (show 1 * t ≤ t ∧ t < 1 * t + 1 by omega)
  have m11 := MC_m (o := 55) (i := 2 * t) (a := t) (v := (Int32.ofInt 0)) m10 rfl (by decide) (by decide) (show 2 * t ≤ 2 * t ∧ 2 * t < 2 * t + 2 by omega)
  have m12 := MC_m (o := 55) (i := 2 * t + 1) (a := t) (v := (Int32.ofInt 0)) m11 rfl (by decide) (by decide) (show 2 * t ≤ 2 * t + 1 ∧ 2 * t + 1 < 2 * t + 2 by omega)
  have m13 := MC_I (f := 1258) (v := (nI (t))) m12
  have mk : MK y (px_I (px_A (px_A (px_A (px_A (px_A (px_A (px_A (px_A (px_A (px_I (px_A (px_A g (y + 49) (t) (Int32.ofInt 1)) (y + 48) (A) (nI (t))) 1248 y (nI (A + 1))) (y + 50) (t) (nI κ)) (y + 51) (t) p1) (y + 52) (t) p2) (y + 53) (3 * t) p3) (y + 53) (3 * t + 1) p4) (y + 53) (3 * t + 2) p5) (y + 54) (t) (Int32.ofInt 0)) (y + 55) (2 * t) (Int32.ofInt 0)) (y + 55) (2 * t + 1) (Int32.ofInt 0)) 1258 y (nI (t))) t κ 0 := ⟨(show gx_A (px_I (px_A (px_A (px_A (px_A (px_A (px_A (px_A (px_A (px_A (px_I (px_A (px_A g (y + 49) (t) (Int32.ofInt 1)) (y + 48) (A) (nI (t))) 1248 y (nI (A + 1))) (y + 50) (t) (nI κ)) (y + 51) (t) p1) (y + 52) (t) p2) (y + 53) (3 * t) p3) (y + 53) (3 * t + 1) p4) (y + 53) (3 * t + 2) p5) (y + 54) (t) (Int32.ofInt 0)) (y + 55) (2 * t) (Int32.ofInt 0)) (y + 55) (2 * t + 1) (Int32.ofInt 0)) 1258 y (nI (t))) (y + 50) (t) = (nI κ) by repeat (first | exact pxA_e | refine (pxA_n (by decide)).trans ?_ | refine (pxA_i (by omega)).trans ?_)), by rw [(show gx_A (px_I (px_A (px_A (px_A (px_A (px_A (px_A (px_A (px_A (px_A (px_I (px_A (px_A g (y + 49) (t) (Int32.ofInt 1)) (y + 48) (A) (nI (t))) 1248 y (nI (A + 1))) (y + 50) (t) (nI κ)) (y + 51) (t) p1) (y + 52) (t) p2) (y + 53) (3 * t) p3) (y + 53) (3 * t + 1) p4) (y + 53) (3 * t + 2) p5) (y + 54) (t) (Int32.ofInt 0)) (y + 55) (2 * t) (Int32.ofInt 0)) (y + 55) (2 * t + 1) (Int32.ofInt 0)) 1258 y (nI (t))) (y + 52) (t) = p2 by repeat (first | exact pxA_e | refine (pxA_n (by decide)).trans ?_ | refine (pxA_i (by omega)).trans ?_))]; exact h2, by rw [(show gx_A (px_I (px_A (px_A (px_A (px_A (px_A (px_A (px_A (px_A (px_A (px_I (px_A (px_A g (y + 49) (t) (Int32.ofInt 1)) (y + 48) (A) (nI (t))) 1248 y (nI (A + 1))) (y + 50) (t) (nI κ)) (y + 51) (t) p1) (y + 52) (t) p2) (y + 53) (3 * t) p3) (y + 53) (3 * t + 1) p4) (y + 53) (3 * t + 2) p5) (y + 54) (t) (Int32.ofInt 0)) (y + 55) (2 * t) (Int32.ofInt 0)) (y + 55) (2 * t + 1) (Int32.ofInt 0)) 1258 y (nI (t))) (y + 51) (t) = p1 by repeat (first | exact pxA_e | refine (pxA_n (by decide)).trans ?_ | refine (pxA_i (by omega)).trans ?_))]; exact h1, by rw [(show gx_A (px_I (px_A (px_A (px_A (px_A (px_A (px_A (px_A (px_A (px_A (px_I (px_A (px_A g (y + 49) (t) (Int32.ofInt 1)) (y + 48) (A) (nI (t))) 1248 y (nI (A + 1))) (y + 50) (t) (nI κ)) (y + 51) (t) p1) (y + 52) (t) p2) (y + 53) (3 * t) p3) (y + 53) (3 * t + 1) p4) (y + 53) (3 * t + 2) p5) (y + 54) (t) (Int32.ofInt 0)) (y + 55) (2 * t) (Int32.ofInt 0)) (y + 55) (2 * t + 1) (Int32.ofInt 0)) 1258 y (nI (t))) (y + 53) (3 * t) = p3 by repeat (first | exact pxA_e | refine (pxA_n (by decide)).trans ?_ | refine (pxA_i (by omega)).trans ?_))]; exact h3, by rw [(show gx_A (px_I (px_A (px_A (px_A (px_A (px_A (px_A (px_A (px_A (px_A (px_I (px_A (px_A g (y + 49) (t) (Int32.ofInt 1)) (y + 48) (A) (nI (t))) 1248 y (nI (A + 1))) (y + 50) (t) (nI κ)) (y + 51) (t) p1) (y + 52) (t) p2) (y + 53) (3 * t) p3) (y + 53) (3 * t + 1) p4) (y + 53) (3 * t + 2) p5) (y + 54) (t) (Int32.ofInt 0)) (y + 55) (2 * t) (Int32.ofInt 0)) (y + 55) (2 * t + 1) (Int32.ofInt 0)) 1258 y (nI (t))) (y + 53) (3 * t + 1) = p4 by repeat (first | exact pxA_e | refine (pxA_n (by decide)).trans ?_ | refine (pxA_i (by omega)).trans ?_))]; exact h4, by rw [(show gx_A (px_I (px_A (px_A (px_A (px_A (px_A (px_A (px_A (px_A (px_A (px_I (px_A (px_A g (y + 49) (t) (Int32.ofInt 1)) (y + 48) (A) (nI (t))) 1248 y (nI (A + 1))) (y + 50) (t) (nI κ)) (y + 51) (t) p1) (y + 52) (t) p2) (y + 53) (3 * t) p3) (y + 53) (3 * t + 1) p4) (y + 53) (3 * t + 2) p5) (y + 54) (t) (Int32.ofInt 0)) (y + 55) (2 * t) (Int32.ofInt 0)) (y + 55) (2 * t + 1) (Int32.ofInt 0)) 1258 y (nI (t))) (y + 53) (3 * t + 2) = p5 by repeat (first | exact pxA_e | refine (pxA_n (by decide)).trans ?_ | refine (pxA_i (by omega)).trans ?_))]; exact h5, by rw [(show gx_A (px_I (px_A (px_A (px_A (px_A (px_A (px_A (px_A (px_A (px_A (px_I (px_A (px_A g (y + 49) (t) (Int32.ofInt 1)) (y + 48) (A) (nI (t))) 1248 y (nI (A + 1))) (y + 50) (t) (nI κ)) (y + 51) (t) p1) (y + 52) (t) p2) (y + 53) (3 * t) p3) (y + 53) (3 * t + 1) p4) (y + 53) (3 * t + 2) p5) (y + 54) (t) (Int32.ofInt 0)) (y + 55) (2 * t) (Int32.ofInt 0)) (y + 55) (2 * t + 1) (Int32.ofInt 0)) 1258 y (nI (t))) (y + 55) (2 * t + 1) = (Int32.ofInt 0) by repeat (first | exact pxA_e | refine (pxA_n (by decide)).trans ?_ | refine (pxA_i (by omega)).trans ?_))]; exact vb0 _, kb_n hκ, (show gx_A (px_I (px_A (px_A (px_A (px_A (px_A (px_A (px_A (px_A (px_A (px_I (px_A (px_A g (y + 49) (t) (Int32.ofInt 1)) (y + 48) (A) (nI (t))) 1248 y (nI (A + 1))) (y + 50) (t) (nI κ)) (y + 51) (t) p1) (y + 52) (t) p2) (y + 53) (3 * t) p3) (y + 53) (3 * t + 1) p4) (y + 53) (3 * t + 2) p5) (y + 54) (t) (Int32.ofInt 0)) (y + 55) (2 * t) (Int32.ofInt 0)) (y + 55) (2 * t + 1) (Int32.ofInt 0)) 1258 y (nI (t))) (y + 54) (t) = (Int32.ofInt 0) by repeat (first | exact pxA_e | refine (pxA_n (by decide)).trans ?_ | refine (pxA_i (by omega)).trans ?_)), fun _ i hi => absurd hi (Nat.not_lt_zero _), fun _ i hi => absurd hi (Nat.not_lt_zero _)⟩
  exact ⟨_, rfl, by decide, ⟨A + 1, by omega, by rw [gxI_I, if_neg (fun k => absurd k.1 (by decide))]; show gx_I (px_I _ 1248 y _) 1248 y = _; rw [gxI_I, if_pos ⟨rfl, rfl⟩], MC_w m13 (fun _ _ _ k => k) (fun j _ _ e => by rw [show j = t from e]; exact ⟨κ, 0, hκ, mk⟩) (fun _ _ k => Or.inr k)⟩, fun _ => ⟨t, ht, by rw [gxI_I, if_pos ⟨rfl, rfl⟩], mk⟩⟩
theorem lay5 {G : GE} (hst : (ge_l G).stackTraces = false) {y c A : Nat} {D : UT} {R : Nat → Prop} {g : GT} {κ : Nat} {p1 p2 p3 p4 p5 : Int32} (hA : A ≤ 400) (ha : gx_I g 1248 y = nI A) (h0 : MC y D (fun j => j = c) (fun _ => False) R (fun p => p < A) g) (hκ : κ < 25) (h1 : vb p1 (kb κ).2.1) (h2 : vb p2 (kb κ).1) (h3 : vb p3 (kb κ).2.2.1) (h4 : vb p4 (kb κ).2.2.2.1) (h5 : vb p5 (kb κ).2.2.2.2.1) : ex_W G 1 0 0 M_X12_lay 5 [(0, .ref y), (1, .int (nI κ)), (2, .int p1), (3, .int p2), (4, .int p3), (5, .int p4), (6, .int p5)] [] g (LV y D c R κ) := by
  have s0 := h0.1
  refine ex_aload_n ok_X12_lay (mi 3 rfl) rfl ?_
  refine ex_getI ok_X12_lay (mi 4 rfl) rfl rfl (fk s0 0 rfl) ?_
  refine ex_top (w := nI A) ha ?_
  refine ex_sipush ok_X12_lay (mi 5 rfl) ?_
  refine ex_icmp_ne (tgt := 27) ok_X12_lay (mi 6 rfl) rfl (fun hne => ?_) (fun heq => ?_)
  · have hA1 : A < 400 := Nat.lt_of_le_of_ne hA (fun k => hne (by rw [k]; rfl))
    obtain ⟨j0, hj0, hu⟩ := MC_free h0 hA1
    refine ex_iconst ok_X12_lay (mi 15 rfl) ?_
    refine ex_istore ok_X12_lay (mi 16 rfl) ?_
    have lp : ∀ n t : Nat, t + n = j0 → ex_W G 1 0 0 M_X12_lay 30 [(0, .ref y), (1, .int (nI κ)), (2, .int p1), (3, .int p2), (4, .int p3), (5, .int p4), (6, .int p5), (7, .int (nI t))] [] g (LV y D c R κ) := by
      intro n
      induction n with
      | zero =>
        intro t ht
        obtain rfl : t = j0 := by omega
        refine ex_aload_n ok_X12_lay (mi 17 rfl) rfl ?_
        refine ex_getRx ok_X12_lay (mi 18 rfl) rfl rfl (fk s0 0 rfl) (fr s0 48 rfl) (fk s0 49 rfl) (by decide) ?_
        refine ex_iload ok_X12_lay (mi 19 rfl) rfl ?_
        refine sm_bal ok_X12_lay (mi 20 rfl) (fk s0 49 rfl) (fn s0 49 rfl) rfl hj0 (by decide) ?_
        refine ex_if_eq (tgt := 46) ok_X12_lay (mi 21 rfl) rfl (fun _ => ?_) (fun k => absurd hu k)
        exact lay46 hst hA1 ha h0 hκ h1 h2 h3 h4 h5 hj0
      | succ n ih =>
        intro t ht
        refine ex_aload_n ok_X12_lay (mi 17 rfl) rfl ?_
        refine ex_getRx ok_X12_lay (mi 18 rfl) rfl rfl (fk s0 0 rfl) (fr s0 48 rfl) (fk s0 49 rfl) (by decide) ?_
        refine ex_iload ok_X12_lay (mi 19 rfl) rfl ?_
        refine sm_bal ok_X12_lay (mi 20 rfl) (fk s0 49 rfl) (fn s0 49 rfl) rfl (by omega) (by decide) ?_
        refine ex_if_eq (tgt := 46) ok_X12_lay (mi 21 rfl) rfl (fun _ => ?_) (fun _ => ?_)
        · exact lay46 hst hA1 ha h0 hκ h1 h2 h3 h4 h5 (by omega)
        · refine ex_iincx (w := nI (t + 1)) ok_X12_lay (mi 22 rfl) rfl (nI_1 t) ?_
          refine ex_goto (tgt := 30) ok_X12_lay (mi 23 rfl) rfl ?_
          exact ex_ls (ls' := [(0, .ref y), (1, .int (nI κ)), (2, .int p1), (3, .int p2), (4, .int p3), (5, .int p4), (6, .int p5), (7, .int (nI (t + 1)))]) ⟨rfl, rfl, rfl, rfl, rfl, rfl, rfl, rfl, trivial⟩ (ih (t + 1) (by omega))
    exact ex_ls (ls' := [(0, .ref y), (1, .int (nI κ)), (2, .int p1), (3, .int p2), (4, .int p3), (5, .int p4), (6, .int p5), (7, .int (nI 0))]) ⟨rfl, rfl, rfl, rfl, rfl, rfl, rfl, rfl, trivial⟩ (lp j0 0 (by omega))
  · refine ex_aload_n ok_X12_lay (mi 7 rfl) rfl ?_
    refine ex_dup ok_X12_lay (mi 8 rfl) rfl ?_
    refine ex_getI ok_X12_lay (mi 9 rfl) rfl rfl (fk s0 0 rfl) ?_
    refine ex_iconst ok_X12_lay (mi 10 rfl) ?_
    refine ex_iadd ok_X12_lay (mi 11 rfl) ?_
    refine ex_putI ok_X12_lay (mi 12 rfl) rfl (fk s0 0 rfl) rfl ?_
    refine ex_iconst ok_X12_lay (mi 13 rfl) ?_
    refine ex_zret ok_X12_lay (mi 14 rfl) rfl (by decide) ?_
    exact ⟨_, rfl, by decide, ⟨A, hA, by rw [gxI_I, if_neg (fun k => absurd k.1 (by decide))]; exact ha, MC_I h0⟩, fun e => absurd (by decide) e⟩
theorem s_X12_lay {G : GE} (hst : (ge_l G).stackTraces = false) {y c : Nat} {D : UT} {R : Nat → Prop} {g : GT} {κ : Nat} {p1 p2 p3 p4 p5 : Int32} (I : MI y D c R g) (hκ : κ < 25) (h1 : vb p1 (kb κ).2.1) (h2 : vb p2 (kb κ).1) (h3 : vb p3 (kb κ).2.2.1) (h4 : vb p4 (kb κ).2.2.2.1) (h5 : vb p5 (kb κ).2.2.2.2.1) : ex_M G 1 0 0 my_X12_lay [.ref y, .int (nI κ), .int p1, .int p2, .int p3, .int p4, .int p5] g (LV y D c R κ) := by
  obtain ⟨A, hA, ha, h0⟩ := I
  refine ex_M_of ok_X12_lay cw_X12_lay rfl hst (Nat.le_of_ble_eq_true rfl) ?_
  refine ex_aload_n ok_X12_lay (mi 0 rfl) rfl ?_
  refine ex_iconst ok_X12_lay (mi 1 rfl) ?_
  refine ex_putI ok_X12_lay (mi 2 rfl) rfl (fk h0.1 0 rfl) rfl ?_
  exact ex_ls (ls' := [(0, .ref y), (1, .int (nI κ)), (2, .int p1), (3, .int p2), (4, .int p3), (5, .int p4), (6, .int p5)]) ⟨rfl, rfl, rfl, rfl, rfl, rfl, rfl, trivial⟩ (lay5 hst hA (by rw [gxI_I, if_neg (fun k => absurd k.1 (by decide))]; exact ha) (MC_I h0) hκ h1 h2 h3 h4 h5)
