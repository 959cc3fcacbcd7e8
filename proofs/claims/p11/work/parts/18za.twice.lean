/-! ===== twice ===== -/
/-- the messages but t are as they were -/
def MX (y t : Nat) (g g1 : GT) : Prop := ∀ f κ m, f ≠ t → κ < 25 → MK y g f κ m → MK y g1 f κ m
theorem MX.trans {y t : Nat} {g g1 g2 : GT} (a : MX y t g g1) (b : MX y t g1 g2) : MX y t g g2 := fun f κ m h1 h2 h => b f κ m h1 h2 (a f κ m h1 h2 h)
theorem MX_n {y t o i : Nat} {g : GT} {v : Int32} (h : o < 50 ∨ 57 ≤ o) : MX y t g (px_A g (y + o) i v) := fun _ _ _ _ _ k => MK_q k (fun q q1 q2 j => pxA_n (by omega))
theorem MX_I {y t f : Nat} {g : GT} {v : Int32} : MX y t g (px_I g f y v) := fun _ _ _ _ _ k => MK_q k (fun _ _ _ _ => rfl)
theorem kb_301 : ∀ κ, κ < 25 → (kb κ).2.2.2.2.2.2 ≤ 301 := by decide
theorem MX_m {y a o i : Nat} {g : GT} {v : Int32} (h1 : 50 ≤ o) (h2 : o < 57) (hi : mz o * a ≤ i ∧ i < mz o * a + mz o) : MX y a g (px_A g (y + o) i v) := by
  intro j κ m hja hk hm
  have hn : ∀ c, c ≠ o → ∀ j, gx_A (px_A g (y + o) i v) (y + c) j = gx_A g (y + c) j := fun c hc j => pxA_n hc
  obtain ⟨k1, k2, k3, k4, k5, k6, k7, k8, k9, k10, k11⟩ := hm
  have hm1 : m < 301 := Nat.lt_of_lt_of_le k8 (kb_301 κ hk)
  have e1 : ∀ c, 50 ≤ c → c < 57 → ∀ t, t < mz c → gx_A (px_A g (y + o) i v) (y + c) (mz c * j + t) = gx_A g (y + c) (mz c * j + t) := fun c c1 c2 t ht => by
    by_cases e : c = o
    · subst e
      refine pxA_i (fun e => ?_)
      have hz : mz c = 1 ∨ mz c = 2 ∨ mz c = 3 ∨ mz c = 600 := by
        unfold mz
        repeat' split
        all_goals simp
      rcases hz with hz | hz | hz | hz <;> rw [hz] at hi ht e <;> omega
    · exact hn c e _
  refine ⟨?_, ?_, ?_, ?_, ?_, ?_, ?_, k8, ?_, fun q i' hi' => ?_, fun q i' hi' => ?_⟩
  · have := e1 50 (by decide) (by decide) 0 (by decide)
    rw [show mz 50 * j + 0 = j by show 1 * j + 0 = j; omega] at this
    rw [this]; exact k1
  · have := e1 52 (by decide) (by decide) 0 (by decide)
    rw [show mz 52 * j + 0 = j by show 1 * j + 0 = j; omega] at this
    rw [this]; exact k2
  · have := e1 51 (by decide) (by decide) 0 (by decide)
    rw [show mz 51 * j + 0 = j by show 1 * j + 0 = j; omega] at this
    rw [this]; exact k3
  · rw [show gx_A (px_A g (y + o) i v) (y + 53) (3 * j) = gx_A g (y + 53) (3 * j) from e1 53 (by decide) (by decide) 0 (by decide)]; exact k4
  · rw [show gx_A (px_A g (y + o) i v) (y + 53) (3 * j + 1) = gx_A g (y + 53) (3 * j + 1) from e1 53 (by decide) (by decide) 1 (by decide)]; exact k5
  · rw [show gx_A (px_A g (y + o) i v) (y + 53) (3 * j + 2) = gx_A g (y + 53) (3 * j + 2) from e1 53 (by decide) (by decide) 2 (by decide)]; exact k6
  · rw [show gx_A (px_A g (y + o) i v) (y + 55) (2 * j + 1) = gx_A g (y + 55) (2 * j + 1) from e1 55 (by decide) (by decide) 1 (by decide)]; exact k7
  · have := e1 54 (by decide) (by decide) 0 (by decide)
    rw [show mz 54 * j + 0 = j by show 1 * j + 0 = j; omega] at this
    rw [this]; exact k9
  · rw [show gx_A (px_A g (y + o) i v) (y + 56) (600 * j + 2 * i') = gx_A g (y + 56) (600 * j + 2 * i') from e1 56 (by decide) (by decide) (2 * i') (by show 2 * i' < 600; omega)]; exact k10 q i' hi'
  · have hm2 : m < 17 := by
      rw [q] at k8
      exact k8
    rw [show gx_A (px_A g (y + o) i v) (y + 56) (600 * j + 3 * i') = gx_A g (y + 56) (600 * j + 3 * i') from e1 56 (by decide) (by decide) (3 * i') (by show 3 * i' < 600; omega)]; exact k11 q i' hi'
def LV2 (y : Nat) (D : UT) (c : Nat) (R : Nat → Prop) (κ : Nat) (g0 : GT) : RT → GT → Prop := fun r g => ∃ b, r = .inl (some (.int b)) ∧ (b = 0 ∨ b = 1) ∧ MI y D c R g ∧ (b ≠ 0 → ∃ t, t < 402 ∧ gx_I g 1258 y = nI t ∧ MK y g t κ 0 ∧ MX y t g0 g)
theorem LV2_no {y c κ : Nat} {D : UT} {R : Nat → Prop} {g0 : GT} : ∀ E g', ¬ LV2 y D c R κ g0 (.inr E) g' := fun E g' h => by
  obtain ⟨b, h1, -⟩ := h
  cases h1
theorem lay46b {G : GE} (hst : (ge_l G).stackTraces = false) {y c A : Nat} {D : UT} {R : Nat → Prop} {g : GT} {κ : Nat} {p1 p2 p3 p4 p5 : Int32} (hA : A < 400) (ha : gx_I g 1248 y = nI A) (h0 : MC y D (fun j => j = c) (fun _ => False) R (fun p => p < A) g) (hκ : κ < 25) (h1 : vb p1 (kb κ).2.1) (h2 : vb p2 (kb κ).1) (h3 : vb p3 (kb κ).2.2.1) (h4 : vb p4 (kb κ).2.2.2.1) (h5 : vb p5 (kb κ).2.2.2.2.1) {t : Nat} (ht : t < 402) {g0 : GT} (hx : MX y t g0 g) : ex_W G 1 0 0 M_X12_lay 46 [(0, .ref y), (1, .int (nI κ)), (2, .int p1), (3, .int p2), (4, .int p3), (5, .int p4), (6, .int p5), (7, .int (nI t))] [] g (LV2 y D c R κ g0) := by
  have s0 := h0.1
  obtain ⟨a1, a2⟩ : A < 400 ∧ A ≠ 400 := ⟨hA, by omega⟩
  refine ex_aload_n ok_X12_lay (mi 24 rfl) rfl ?_
  refine ex_getRx ok_X12_lay (mi 25 rfl) rfl rfl (fk s0 0 rfl) (fr s0 48 rfl) (fk s0 49 rfl) (by decide) ?_
  refine ex_iload ok_X12_lay (mi 26 rfl) rfl ?_
  refine ex_iconst ok_X12_lay (mi 27 rfl) ?_
  refine sm_bast ok_X12_lay (mi 28 rfl) (fk s0 49 rfl) (fn s0 49 rfl) rfl (by omega) (by decide) (Or.inr (by decide)) ?_
  have s1 : sh T12 (px_A g (y + 49) (t) (Int32.ofInt 1)) y := shq (sqA sq0) s0
  refine ex_aload_n ok_X12_lay (mi 29 rfl) rfl ?_
  refine ex_getRx ok_X12_lay (mi 30 rfl) rfl rfl (fk s1 0 rfl) (fr s1 47 rfl) (fk s1 48 rfl) (by decide) ?_
  refine ex_aload_n ok_X12_lay (mi 31 rfl) rfl ?_
  refine ex_getI ok_X12_lay (mi 32 rfl) rfl rfl (fk s1 0 rfl) ?_
  refine ex_top (w := nI A) ha ?_
  refine ex_iload ok_X12_lay (mi 33 rfl) rfl ?_
  refine sm_iast ok_X12_lay (mi 34 rfl) (fk s1 48 rfl) (fn s1 48 rfl) rfl (by omega) (by decide) ?_
  have s2 : sh T12 (px_A (px_A g (y + 49) (t) (Int32.ofInt 1)) (y + 48) (A) (nI (t))) y := shq (sqA sq0) s1
  refine ex_aload_n ok_X12_lay (mi 35 rfl) rfl ?_
  refine ex_dup ok_X12_lay (mi 36 rfl) rfl ?_
  refine ex_getI ok_X12_lay (mi 37 rfl) rfl rfl (fk s2 0 rfl) ?_
  refine ex_top (w := nI A) ha ?_
  refine ex_iconst ok_X12_lay (mi 38 rfl) ?_
  refine ex_iadd ok_X12_lay (mi 39 rfl) ?_
  refine ex_top (w := nI (A + 1)) (nI_add _ 1) ?_
  refine ex_putI ok_X12_lay (mi 40 rfl) rfl (fk s2 0 rfl) rfl ?_
  have s3 : sh T12 (px_I (px_A (px_A g (y + 49) (t) (Int32.ofInt 1)) (y + 48) (A) (nI (t))) 1248 y (nI (A + 1))) y := shq (sqI sq0) s2
  refine ex_aload_n ok_X12_lay (mi 41 rfl) rfl ?_
  refine ex_getRx ok_X12_lay (mi 42 rfl) rfl rfl (fk s3 0 rfl) (fr s3 49 rfl) (fk s3 50 rfl) (by decide) ?_
  refine ex_iload ok_X12_lay (mi 43 rfl) rfl ?_
  refine ex_iload_n ok_X12_lay (mi 44 rfl) rfl ?_
  refine sm_iast ok_X12_lay (mi 45 rfl) (fk s3 50 rfl) (fn s3 50 rfl) rfl (by omega) (by decide) ?_
  have s4 : sh T12 (px_A (px_I (px_A (px_A g (y + 49) (t) (Int32.ofInt 1)) (y + 48) (A) (nI (t))) 1248 y (nI (A + 1))) (y + 50) (t) (nI κ)) y := shq (sqA sq0) s3
  refine ex_aload_n ok_X12_lay (mi 46 rfl) rfl ?_
  refine ex_getRx ok_X12_lay (mi 47 rfl) rfl rfl (fk s4 0 rfl) (fr s4 50 rfl) (fk s4 51 rfl) (by decide) ?_
  refine ex_iload ok_X12_lay (mi 48 rfl) rfl ?_
  refine ex_iload_n ok_X12_lay (mi 49 rfl) rfl ?_
  refine sm_iast ok_X12_lay (mi 50 rfl) (fk s4 51 rfl) (fn s4 51 rfl) rfl (by omega) (by decide) ?_
  have s5 : sh T12 (px_A (px_A (px_I (px_A (px_A g (y + 49) (t) (Int32.ofInt 1)) (y + 48) (A) (nI (t))) 1248 y (nI (A + 1))) (y + 50) (t) (nI κ)) (y + 51) (t) p1) y := shq (sqA sq0) s4
  refine ex_aload_n ok_X12_lay (mi 51 rfl) rfl ?_
  refine ex_getRx ok_X12_lay (mi 52 rfl) rfl rfl (fk s5 0 rfl) (fr s5 51 rfl) (fk s5 52 rfl) (by decide) ?_
  refine ex_iload ok_X12_lay (mi 53 rfl) rfl ?_
  refine ex_iload_n ok_X12_lay (mi 54 rfl) rfl ?_
  refine sm_iast ok_X12_lay (mi 55 rfl) (fk s5 52 rfl) (fn s5 52 rfl) rfl (by omega) (by decide) ?_
  have s6 : sh T12 (px_A (px_A (px_A (px_I (px_A (px_A g (y + 49) (t) (Int32.ofInt 1)) (y + 48) (A) (nI (t))) 1248 y (nI (A + 1))) (y + 50) (t) (nI κ)) (y + 51) (t) p1) (y + 52) (t) p2) y := shq (sqA sq0) s5
  refine ex_aload_n ok_X12_lay (mi 56 rfl) rfl ?_
  refine ex_getRx ok_X12_lay (mi 57 rfl) rfl rfl (fk s6 0 rfl) (fr s6 52 rfl) (fk s6 53 rfl) (by decide) ?_
  refine ex_iconst ok_X12_lay (mi 58 rfl) ?_
  refine ex_iload ok_X12_lay (mi 59 rfl) rfl ?_
  refine ex_imul ok_X12_lay (mi 60 rfl) ?_
  refine ex_top (w := nI (3 * t)) (nI_mulc rfl) ?_
  refine ex_iload ok_X12_lay (mi 61 rfl) rfl ?_
  refine sm_iast ok_X12_lay (mi 62 rfl) (fk s6 53 rfl) (fn s6 53 rfl) rfl (by omega) (by decide) ?_
  have s7 : sh T12 (px_A (px_A (px_A (px_A (px_I (px_A (px_A g (y + 49) (t) (Int32.ofInt 1)) (y + 48) (A) (nI (t))) 1248 y (nI (A + 1))) (y + 50) (t) (nI κ)) (y + 51) (t) p1) (y + 52) (t) p2) (y + 53) (3 * t) p3) y := shq (sqA sq0) s6
  refine ex_aload_n ok_X12_lay (mi 63 rfl) rfl ?_
  refine ex_getRx ok_X12_lay (mi 64 rfl) rfl rfl (fk s7 0 rfl) (fr s7 52 rfl) (fk s7 53 rfl) (by decide) ?_
  refine ex_iconst ok_X12_lay (mi 65 rfl) ?_
  refine ex_iload ok_X12_lay (mi 66 rfl) rfl ?_
  refine ex_imul ok_X12_lay (mi 67 rfl) ?_
  refine ex_top (w := nI (3 * t)) (nI_mulc rfl) ?_
  refine ex_iconst ok_X12_lay (mi 68 rfl) ?_
  refine ex_iadd ok_X12_lay (mi 69 rfl) ?_
  refine ex_top (w := nI (3 * t + 1)) (nI_add _ 1) ?_
  refine ex_iload ok_X12_lay (mi 70 rfl) rfl ?_
  refine sm_iast ok_X12_lay (mi 71 rfl) (fk s7 53 rfl) (fn s7 53 rfl) rfl (by omega) (by decide) ?_
  have s8 : sh T12 (px_A (px_A (px_A (px_A (px_A (px_I (px_A (px_A g (y + 49) (t) (Int32.ofInt 1)) (y + 48) (A) (nI (t))) 1248 y (nI (A + 1))) (y + 50) (t) (nI κ)) (y + 51) (t) p1) (y + 52) (t) p2) (y + 53) (3 * t) p3) (y + 53) (3 * t + 1) p4) y := shq (sqA sq0) s7
  refine ex_aload_n ok_X12_lay (mi 72 rfl) rfl ?_
  refine ex_getRx ok_X12_lay (mi 73 rfl) rfl rfl (fk s8 0 rfl) (fr s8 52 rfl) (fk s8 53 rfl) (by decide) ?_
  refine ex_iconst ok_X12_lay (mi 74 rfl) ?_
  refine ex_iload ok_X12_lay (mi 75 rfl) rfl ?_
  refine ex_imul ok_X12_lay (mi 76 rfl) ?_
  refine ex_top (w := nI (3 * t)) (nI_mulc rfl) ?_
  refine ex_iconst ok_X12_lay (mi 77 rfl) ?_
  refine ex_iadd ok_X12_lay (mi 78 rfl) ?_
  refine ex_top (w := nI (3 * t + 2)) (nI_add _ 2) ?_
  refine ex_iload ok_X12_lay (mi 79 rfl) rfl ?_
  refine sm_iast ok_X12_lay (mi 80 rfl) (fk s8 53 rfl) (fn s8 53 rfl) rfl (by omega) (by decide) ?_
  have s9 : sh T12 (px_A (px_A (px_A (px_A (px_A (px_A (px_I (px_A (px_A g (y + 49) (t) (Int32.ofInt 1)) (y + 48) (A) (nI (t))) 1248 y (nI (A + 1))) (y + 50) (t) (nI κ)) (y + 51) (t) p1) (y + 52) (t) p2) (y + 53) (3 * t) p3) (y + 53) (3 * t + 1) p4) (y + 53) (3 * t + 2) p5) y := shq (sqA sq0) s8
  refine ex_aload_n ok_X12_lay (mi 81 rfl) rfl ?_
  refine ex_getRx ok_X12_lay (mi 82 rfl) rfl rfl (fk s9 0 rfl) (fr s9 53 rfl) (fk s9 54 rfl) (by decide) ?_
  refine ex_iload ok_X12_lay (mi 83 rfl) rfl ?_
  refine ex_iconst ok_X12_lay (mi 84 rfl) ?_
  refine sm_iast ok_X12_lay (mi 85 rfl) (fk s9 54 rfl) (fn s9 54 rfl) rfl (by omega) (by decide) ?_
  have s10 : sh T12 (px_A (px_A (px_A (px_A (px_A (px_A (px_A (px_I (px_A (px_A g (y + 49) (t) (Int32.ofInt 1)) (y + 48) (A) (nI (t))) 1248 y (nI (A + 1))) (y + 50) (t) (nI κ)) (y + 51) (t) p1) (y + 52) (t) p2) (y + 53) (3 * t) p3) (y + 53) (3 * t + 1) p4) (y + 53) (3 * t + 2) p5) (y + 54) (t) (Int32.ofInt 0)) y := shq (sqA sq0) s9
  refine ex_aload_n ok_X12_lay (mi 86 rfl) rfl ?_
  refine ex_getRx ok_X12_lay (mi 87 rfl) rfl rfl (fk s10 0 rfl) (fr s10 54 rfl) (fk s10 55 rfl) (by decide) ?_
  refine ex_iconst ok_X12_lay (mi 88 rfl) ?_
  refine ex_iload ok_X12_lay (mi 89 rfl) rfl ?_
  refine ex_imul ok_X12_lay (mi 90 rfl) ?_
  refine ex_top (w := nI (2 * t)) (nI_mulc rfl) ?_
  refine ex_iconst ok_X12_lay (mi 91 rfl) ?_
  refine sm_iast ok_X12_lay (mi 92 rfl) (fk s10 55 rfl) (fn s10 55 rfl) rfl (by omega) (by decide) ?_
  have s11 : sh T12 (px_A (px_A (px_A (px_A (px_A (px_A (px_A (px_A (px_I (px_A (px_A g (y + 49) (t) (Int32.ofInt 1)) (y + 48) (A) (nI (t))) 1248 y (nI (A + 1))) (y + 50) (t) (nI κ)) (y + 51) (t) p1) (y + 52) (t) p2) (y + 53) (3 * t) p3) (y + 53) (3 * t + 1) p4) (y + 53) (3 * t + 2) p5) (y + 54) (t) (Int32.ofInt 0)) (y + 55) (2 * t) (Int32.ofInt 0)) y := shq (sqA sq0) s10
  refine ex_aload_n ok_X12_lay (mi 93 rfl) rfl ?_
  refine ex_getRx ok_X12_lay (mi 94 rfl) rfl rfl (fk s11 0 rfl) (fr s11 54 rfl) (fk s11 55 rfl) (by decide) ?_
  refine ex_iconst ok_X12_lay (mi 95 rfl) ?_
  refine ex_iload ok_X12_lay (mi 96 rfl) rfl ?_
  refine ex_imul ok_X12_lay (mi 97 rfl) ?_
  refine ex_top (w := nI (2 * t)) (nI_mulc rfl) ?_
  refine ex_iconst ok_X12_lay (mi 98 rfl) ?_
  refine ex_iadd ok_X12_lay (mi 99 rfl) ?_
  refine ex_top (w := nI (2 * t + 1)) (nI_add _ 1) ?_
  refine ex_iconst ok_X12_lay (mi 100 rfl) ?_
  refine sm_iast ok_X12_lay (mi 101 rfl) (fk s11 55 rfl) (fn s11 55 rfl) rfl (by omega) (by decide) ?_
  have s12 : sh T12 (px_A (px_A (px_A (px_A (px_A (px_A (px_A (px_A (px_A (px_I (px_A (px_A g (y + 49) (t) (Int32.ofInt 1)) (y + 48) (A) (nI (t))) 1248 y (nI (A + 1))) (y + 50) (t) (nI κ)) (y + 51) (t) p1) (y + 52) (t) p2) (y + 53) (3 * t) p3) (y + 53) (3 * t + 1) p4) (y + 53) (3 * t + 2) p5) (y + 54) (t) (Int32.ofInt 0)) (y + 55) (2 * t) (Int32.ofInt 0)) (y + 55) (2 * t + 1) (Int32.ofInt 0)) y := shq (sqA sq0) s11
  refine ex_aload_n ok_X12_lay (mi 102 rfl) rfl ?_
  refine ex_iload ok_X12_lay (mi 103 rfl) rfl ?_
  refine ex_putI ok_X12_lay (mi 104 rfl) rfl (fk s12 0 rfl) rfl ?_
  have s13 : sh T12 (px_I (px_A (px_A (px_A (px_A (px_A (px_A (px_A (px_A (px_A (px_I (px_A (px_A g (y + 49) (t) (Int32.ofInt 1)) (y + 48) (A) (nI (t))) 1248 y (nI (A + 1))) (y + 50) (t) (nI κ)) (y + 51) (t) p1) (y + 52) (t) p2) (y + 53) (3 * t) p3) (y + 53) (3 * t + 1) p4) (y + 53) (3 * t + 2) p5) (y + 54) (t) (Int32.ofInt 0)) (y + 55) (2 * t) (Int32.ofInt 0)) (y + 55) (2 * t + 1) (Int32.ofInt 0)) 1258 y (nI (t))) y := shq (sqI sq0) s12
  refine ex_iconst ok_X12_lay (mi 105 rfl) ?_
  refine ex_zret ok_X12_lay (mi 106 rfl) rfl (by decide) ?_
  have m0 : MC y D (fun j => j = c) (fun j => j = t) R (fun p => p < A) g := MC_w h0 (fun _ _ _ k => k) (fun _ _ _ k => k.elim) (fun _ _ k => Or.inr k)
  have m1 := MC_u (i := t) (v := Int32.ofInt 1) m0
  have m2a := MC_w (C' := fun j => (j ≠ t ∧ j = c) ∨ (j = t ∧ Int32.ofInt 1 ≠ 0)) (E' := fun j => j = t) (R' := R) (P' := fun p => p < A ∧ p ≠ A) m1 (fun _ _ _ k => k.imp id (fun k => k.elim (fun p k => ⟨p, ⟨k.1, by have := k.1; omega⟩, k.2⟩))) (fun _ _ k e => absurd e k) (fun _ _ k => Or.inr k)
  have m2b := MC_o (P := fun p => p < A) (i := A) (v := nI t) m1 (vp_in_nI ht (by decide)) m2a
  have m2 := MC_w (C' := fun j => j = c) (E' := fun j => j = t) (R' := R) (P' := fun p => p < A + 1) m2b (fun j _ _ k => k.elim (fun k => k.elim (fun k => Or.inl k.2) (fun k => Or.inr ⟨A, by omega, by omega, by rw [k.1]; exact pxA_e⟩)) (fun k => k.elim (fun p k => Or.inr ⟨p, by have := k.1.1; omega, k.2⟩))) (fun _ _ k e => absurd e k) (fun _ _ k => Or.inr k)
  have m3 := MC_I (f := 1248) (v := (nI (A + 1))) m2
  have m4 := MC_m (o := 50) (i := t) (a := t) (v := (nI κ)) m3 rfl (by decide) (by decide) (show 1 * t ≤ t ∧ t < 1 * t + 1 by omega)
  have m5 := MC_m (o := 51) (i := t) (a := t) (v := p1) m4 rfl (by decide) (by decide) (show 1 * t ≤ t ∧ t < 1 * t + 1 by omega)
  have m6 := MC_m (o := 52) (i := t) (a := t) (v := p2) m5 rfl (by decide) (by decide) (show 1 * t ≤ t ∧ t < 1 * t + 1 by omega)
  have m7 := MC_m (o := 53) (i := 3 * t) (a := t) (v := p3) m6 rfl (by decide) (by decide) (show 3 * t ≤ 3 * t ∧ 3 * t < 3 * t + 3 by omega)
  have m8 := MC_m (o := 53) (i := 3 * t + 1) (a := t) (v := p4) m7 rfl (by decide) (by decide) (show 3 * t ≤ 3 * t + 1 ∧ 3 * t + 1 < 3 * t + 3 by omega)
  have m9 := MC_m (o := 53) (i := 3 * t + 2) (a := t) (v := p5) m8 rfl (by decide) (by decide) (show 3 * t ≤ 3 * t + 2 ∧ 3 * t + 2 < 3 * t + 3 by omega)
  have m10 := MC_m (o := 54) (i := t) (a := t) (v := (Int32.ofInt 0)) m9 rfl (by decide) (by decide) (show 1 * t ≤ t ∧ t < 1 * t + 1 by omega)
  have m11 := MC_m (o := 55) (i := 2 * t) (a := t) (v := (Int32.ofInt 0)) m10 rfl (by decide) (by decide) (show 2 * t ≤ 2 * t ∧ 2 * t < 2 * t + 2 by omega)
  have m12 := MC_m (o := 55) (i := 2 * t + 1) (a := t) (v := (Int32.ofInt 0)) m11 rfl (by decide) (by decide) (show 2 * t ≤ 2 * t + 1 ∧ 2 * t + 1 < 2 * t + 2 by omega)
  have m13 := MC_I (f := 1258) (v := (nI (t))) m12
  have mk : MK y (px_I (px_A (px_A (px_A (px_A (px_A (px_A (px_A (px_A (px_A (px_I (px_A (px_A g (y + 49) (t) (Int32.ofInt 1)) (y + 48) (A) (nI (t))) 1248 y (nI (A + 1))) (y + 50) (t) (nI κ)) (y + 51) (t) p1) (y + 52) (t) p2) (y + 53) (3 * t) p3) (y + 53) (3 * t + 1) p4) (y + 53) (3 * t + 2) p5) (y + 54) (t) (Int32.ofInt 0)) (y + 55) (2 * t) (Int32.ofInt 0)) (y + 55) (2 * t + 1) (Int32.ofInt 0)) 1258 y (nI (t))) t κ 0 := ⟨(show gx_A (px_I (px_A (px_A (px_A (px_A (px_A (px_A (px_A (px_A (px_A (px_I (px_A (px_A g (y + 49) (t) (Int32.ofInt 1)) (y + 48) (A) (nI (t))) 1248 y (nI (A + 1))) (y + 50) (t) (nI κ)) (y + 51) (t) p1) (y + 52) (t) p2) (y + 53) (3 * t) p3) (y + 53) (3 * t + 1) p4) (y + 53) (3 * t + 2) p5) (y + 54) (t) (Int32.ofInt 0)) (y + 55) (2 * t) (Int32.ofInt 0)) (y + 55) (2 * t + 1) (Int32.ofInt 0)) 1258 y (nI (t))) (y + 50) (t) = (nI κ) by repeat (first | exact pxA_e | refine (pxA_n (by decide)).trans ?_ | refine (pxA_i (by omega)).trans ?_)), by rw [(show gx_A (px_I (px_A (px_A (px_A (px_A (px_A (px_A (px_A (px_A (px_A (px_I (px_A (px_A g (y + 49) (t) (Int32.ofInt 1)) (y + 48) (A) (nI (t))) 1248 y (nI (A + 1))) (y + 50) (t) (nI κ)) (y + 51) (t) p1) (y + 52) (t) p2) (y + 53) (3 * t) p3) (y + 53) (3 * t + 1) p4) (y + 53) (3 * t + 2) p5) (y + 54) (t) (Int32.ofInt 0)) (y + 55) (2 * t) (Int32.ofInt 0)) (y + 55) (2 * t + 1) (Int32.ofInt 0)) 1258 y (nI (t))) (y + 52) (t) = p2 by repeat (first | exact pxA_e | refine (pxA_n (by decide)).trans ?_ | refine (pxA_i (by omega)).trans ?_))]; exact h2, by rw [(show gx_A (px_I (px_A (px_A (px_A (px_A (px_A (px_A (px_A (px_A (px_A (px_I (px_A (px_A g (y + 49) (t) (Int32.ofInt 1)) (y + 48) (A) (nI (t))) 1248 y (nI (A + 1))) (y + 50) (t) (nI κ)) (y + 51) (t) p1) (y + 52) (t) p2) (y + 53) (3 * t) p3) (y + 53) (3 * t + 1) p4) (y + 53) (3 * t + 2) p5) (y + 54) (t) (Int32.ofInt 0)) (y + 55) (2 * t) (Int32.ofInt 0)) (y + 55) (2 * t + 1) (Int32.ofInt 0)) 1258 y (nI (t))) (y + 51) (t) = p1 by repeat (first | exact pxA_e | refine (pxA_n (by decide)).trans ?_ | refine (pxA_i (by omega)).trans ?_))]; exact h1, by rw [(show gx_A (px_I (px_A (px_A (px_A (px_A (px_A (px_A (px_A (px_A (px_A (px_I (px_A (px_A g (y + 49) (t) (Int32.ofInt 1)) (y + 48) (A) (nI (t))) 1248 y (nI (A + 1))) (y + 50) (t) (nI κ)) (y + 51) (t) p1) (y + 52) (t) p2) (y + 53) (3 * t) p3) (y + 53) (3 * t + 1) p4) (y + 53) (3 * t + 2) p5) (y + 54) (t) (Int32.ofInt 0)) (y + 55) (2 * t) (Int32.ofInt 0)) (y + 55) (2 * t + 1) (Int32.ofInt 0)) 1258 y (nI (t))) (y + 53) (3 * t) = p3 by repeat (first | exact pxA_e | refine (pxA_n (by decide)).trans ?_ | refine (pxA_i (by omega)).trans ?_))]; exact h3, by rw [(show gx_A (px_I (px_A (px_A (px_A (px_A (px_A (px_A (px_A (px_A (px_A (px_I (px_A (px_A g (y + 49) (t) (Int32.ofInt 1)) (y + 48) (A) (nI (t))) 1248 y (nI (A + 1))) (y + 50) (t) (nI κ)) (y + 51) (t) p1) (y + 52) (t) p2) (y + 53) (3 * t) p3) (y + 53) (3 * t + 1) p4) (y + 53) (3 * t + 2) p5) (y + 54) (t) (Int32.ofInt 0)) (y + 55) (2 * t) (Int32.ofInt 0)) (y + 55) (2 * t + 1) (Int32.ofInt 0)) 1258 y (nI (t))) (y + 53) (3 * t + 1) = p4 by repeat (first | exact pxA_e | refine (pxA_n (by decide)).trans ?_ | refine (pxA_i (by omega)).trans ?_))]; exact h4, by rw [(show gx_A (px_I (px_A (px_A (px_A (px_A (px_A (px_A (px_A (px_A (px_A (px_I (px_A (px_A g (y + 49) (t) (Int32.ofInt 1)) (y + 48) (A) (nI (t))) 1248 y (nI (A + 1))) (y + 50) (t) (nI κ)) (y + 51) (t) p1) (y + 52) (t) p2) (y + 53) (3 * t) p3) (y + 53) (3 * t + 1) p4) (y + 53) (3 * t + 2) p5) (y + 54) (t) (Int32.ofInt 0)) (y + 55) (2 * t) (Int32.ofInt 0)) (y + 55) (2 * t + 1) (Int32.ofInt 0)) 1258 y (nI (t))) (y + 53) (3 * t + 2) = p5 by repeat (first | exact pxA_e | refine (pxA_n (by decide)).trans ?_ | refine (pxA_i (by omega)).trans ?_))]; exact h5, by rw [(show gx_A (px_I (px_A (px_A (px_A (px_A (px_A (px_A (px_A (px_A (px_A (px_I (px_A (px_A g (y + 49) (t) (Int32.ofInt 1)) (y + 48) (A) (nI (t))) 1248 y (nI (A + 1))) (y + 50) (t) (nI κ)) (y + 51) (t) p1) (y + 52) (t) p2) (y + 53) (3 * t) p3) (y + 53) (3 * t + 1) p4) (y + 53) (3 * t + 2) p5) (y + 54) (t) (Int32.ofInt 0)) (y + 55) (2 * t) (Int32.ofInt 0)) (y + 55) (2 * t + 1) (Int32.ofInt 0)) 1258 y (nI (t))) (y + 55) (2 * t + 1) = (Int32.ofInt 0) by repeat (first | exact pxA_e | refine (pxA_n (by decide)).trans ?_ | refine (pxA_i (by omega)).trans ?_))]; exact vb0 _, kb_n hκ, (show gx_A (px_I (px_A (px_A (px_A (px_A (px_A (px_A (px_A (px_A (px_A (px_I (px_A (px_A g (y + 49) (t) (Int32.ofInt 1)) (y + 48) (A) (nI (t))) 1248 y (nI (A + 1))) (y + 50) (t) (nI κ)) (y + 51) (t) p1) (y + 52) (t) p2) (y + 53) (3 * t) p3) (y + 53) (3 * t + 1) p4) (y + 53) (3 * t + 2) p5) (y + 54) (t) (Int32.ofInt 0)) (y + 55) (2 * t) (Int32.ofInt 0)) (y + 55) (2 * t + 1) (Int32.ofInt 0)) 1258 y (nI (t))) (y + 54) (t) = (Int32.ofInt 0) by repeat (first | exact pxA_e | refine (pxA_n (by decide)).trans ?_ | refine (pxA_i (by omega)).trans ?_)), fun _ i hi => absurd hi (Nat.not_lt_zero _), fun _ i hi => absurd hi (Nat.not_lt_zero _)⟩
  have mx : MX y t g (px_I (px_A (px_A (px_A (px_A (px_A (px_A (px_A (px_A (px_A (px_I (px_A (px_A g (y + 49) (t) (Int32.ofInt 1)) (y + 48) (A) (nI (t))) 1248 y (nI (A + 1))) (y + 50) (t) (nI κ)) (y + 51) (t) p1) (y + 52) (t) p2) (y + 53) (3 * t) p3) (y + 53) (3 * t + 1) p4) (y + 53) (3 * t + 2) p5) (y + 54) (t) (Int32.ofInt 0)) (y + 55) (2 * t) (Int32.ofInt 0)) (y + 55) (2 * t + 1) (Int32.ofInt 0)) 1258 y (nI (t))) := (((((((((((((MX_n (o := 49) (by decide)).trans (MX_n (o := 48) (by decide))).trans MX_I).trans (MX_m (o := 50) (a := t) (i := t) (by decide) (by decide) (show 1 * t ≤ t ∧ t < 1 * t + 1 by omega))).trans (MX_m (o := 51) (a := t) (i := t) (by decide) (by decide) (show 1 * t ≤ t ∧ t < 1 * t + 1 by omega))).trans (MX_m (o := 52) (a := t) (i := t) (by decide) (by decide) (show 1 * t ≤ t ∧ t < 1 * t + 1 by omega))).trans (MX_m (o := 53) (a := t) (i := 3 * t) (by decide) (by decide) (show 3 * t ≤ 3 * t ∧ 3 * t < 3 * t + 3 by omega))).trans (MX_m (o := 53) (a := t) (i := 3 * t + 1) (by decide) (by decide) (show 3 * t ≤ 3 * t + 1 ∧ 3 * t + 1 < 3 * t + 3 by omega))).trans (MX_m (o := 53) (a := t) (i := 3 * t + 2) (by decide) (by decide) (show 3 * t ≤ 3 * t + 2 ∧ 3 * t + 2 < 3 * t + 3 by omega))).trans (MX_m (o := 54) (a := t) (i := t) (by decide) (by decide) (show 1 * t ≤ t ∧ t < 1 * t + 1 by omega))).trans (MX_m (o := 55) (a := t) (i := 2 * t) (by decide) (by decide) (show 2 * t ≤ 2 * t ∧ 2 * t < 2 * t + 2 by omega))).trans (MX_m (o := 55) (a := t) (i := 2 * t + 1) (by decide) (by decide) (show 2 * t ≤ 2 * t + 1 ∧ 2 * t + 1 < 2 * t + 2 by omega))).trans MX_I)
  exact ⟨_, rfl, by decide, ⟨A + 1, by omega, by rw [gxI_I, if_neg (fun k => absurd k.1 (by decide))]; show gx_I (px_I _ 1248 y _) 1248 y = _; rw [gxI_I, if_pos ⟨rfl, rfl⟩], MC_w m13 (fun _ _ _ k => k) (fun j _ _ e => by rw [show j = t from e]; exact ⟨κ, 0, hκ, mk⟩) (fun _ _ k => Or.inr k)⟩, fun _ => ⟨t, ht, by rw [gxI_I, if_pos ⟨rfl, rfl⟩], mk, hx.trans mx⟩⟩
theorem lay5b {G : GE} (hst : (ge_l G).stackTraces = false) {y c A : Nat} {D : UT} {R : Nat → Prop} {g : GT} {κ : Nat} {p1 p2 p3 p4 p5 : Int32} (hA : A ≤ 400) (ha : gx_I g 1248 y = nI A) (h0 : MC y D (fun j => j = c) (fun _ => False) R (fun p => p < A) g) (hκ : κ < 25) (h1 : vb p1 (kb κ).2.1) (h2 : vb p2 (kb κ).1) (h3 : vb p3 (kb κ).2.2.1) (h4 : vb p4 (kb κ).2.2.2.1) (h5 : vb p5 (kb κ).2.2.2.2.1) {g0 : GT} (hx : ∀ t, MX y t g0 g) : ex_W G 1 0 0 M_X12_lay 5 [(0, .ref y), (1, .int (nI κ)), (2, .int p1), (3, .int p2), (4, .int p3), (5, .int p4), (6, .int p5)] [] g (LV2 y D c R κ g0) := by
  have s0 := h0.1
  refine ex_aload_n ok_X12_lay (mi 3 rfl) rfl ?_
  refine ex_getI ok_X12_lay (mi 4 rfl) rfl rfl (fk s0 0 rfl) ?_
  refine ex_top (w := nI A) ha ?_
  refine ex_sipush ok_X12_lay (mi 5 rfl) ?_
  refine ex_icmp_ne (tgt := 27) ok_X12_lay (mi 6 rfl) rfl (fun hne => ?_) (fun heq => ?_)
  · have hA1 : A < 400 := Nat.lt_of_le_of_ne hA (fun k => hne (by rw [k]; rfl))
    obtain ⟨j0, hj0, hu⟩ := MC_free h0 hA1
    refine ex_iconst ok_X12_lay (mi 15 rfl) ?_
    refine ex_istore ok_X12_lay (mi 16 rfl) ?_
    have lp : ∀ n t : Nat, t + n = j0 → ex_W G 1 0 0 M_X12_lay 30 [(0, .ref y), (1, .int (nI κ)), (2, .int p1), (3, .int p2), (4, .int p3), (5, .int p4), (6, .int p5), (7, .int (nI t))] [] g (LV2 y D c R κ g0) := by
      intro n
      induction n with
      | zero =>
        intro t ht
        obtain rfl : t = j0 := by omega
        refine ex_aload_n ok_X12_lay (mi 17 rfl) rfl ?_
        refine ex_getRx ok_X12_lay (mi 18 rfl) rfl rfl (fk s0 0 rfl) (fr s0 48 rfl) (fk s0 49 rfl) (by decide) ?_
        refine ex_iload ok_X12_lay (mi 19 rfl) rfl ?_
        refine sm_bal ok_X12_lay (mi 20 rfl) (fk s0 49 rfl) (fn s0 49 rfl) rfl hj0 (by decide) ?_
        refine ex_if_eq (tgt := 46) ok_X12_lay (mi 21 rfl) rfl (fun _ => ?_) (fun k => absurd hu k)
        exact lay46b hst hA1 ha h0 hκ h1 h2 h3 h4 h5 hj0 (hx _)
      | succ n ih =>
        intro t ht
        refine ex_aload_n ok_X12_lay (mi 17 rfl) rfl ?_
        refine ex_getRx ok_X12_lay (mi 18 rfl) rfl rfl (fk s0 0 rfl) (fr s0 48 rfl) (fk s0 49 rfl) (by decide) ?_
        refine ex_iload ok_X12_lay (mi 19 rfl) rfl ?_
        refine sm_bal ok_X12_lay (mi 20 rfl) (fk s0 49 rfl) (fn s0 49 rfl) rfl (by omega) (by decide) ?_
        refine ex_if_eq (tgt := 46) ok_X12_lay (mi 21 rfl) rfl (fun _ => ?_) (fun _ => ?_)
        · exact lay46b hst hA1 ha h0 hκ h1 h2 h3 h4 h5 (by omega) (hx _)
        · refine ex_iincx (w := nI (t + 1)) ok_X12_lay (mi 22 rfl) rfl (nI_1 t) ?_
          refine ex_goto (tgt := 30) ok_X12_lay (mi 23 rfl) rfl ?_
          exact ex_ls (ls' := [(0, .ref y), (1, .int (nI κ)), (2, .int p1), (3, .int p2), (4, .int p3), (5, .int p4), (6, .int p5), (7, .int (nI (t + 1)))]) ⟨rfl, rfl, rfl, rfl, rfl, rfl, rfl, rfl, trivial⟩ (ih (t + 1) (by omega))
    exact ex_ls (ls' := [(0, .ref y), (1, .int (nI κ)), (2, .int p1), (3, .int p2), (4, .int p3), (5, .int p4), (6, .int p5), (7, .int (nI 0))]) ⟨rfl, rfl, rfl, rfl, rfl, rfl, rfl, rfl, trivial⟩ (lp j0 0 (by omega))
  · refine ex_aload_n ok_X12_lay (mi 7 rfl) rfl ?_
    refine ex_dup ok_X12_lay (mi 8 rfl) rfl ?_
    refine ex_getI ok_X12_lay (mi 9 rfl) rfl rfl (fk s0 0 rfl) ?_
    refine ex_iconst ok_X12_lay (mi 10 rfl) ?_
    refine ex_iadd ok_X12_lay (mi 11 rfl) ?_
    refine ex_putI ok_X12_lay (mi 12 rfl) rfl (fk s0 0 rfl) rfl ?_
    refine ex_iconst ok_X12_lay (mi 13 rfl) ?_
    refine ex_zret ok_X12_lay (mi 14 rfl) rfl (by decide) ?_
    exact ⟨_, rfl, by decide, ⟨A, hA, by rw [gxI_I, if_neg (fun k => absurd k.1 (by decide))]; exact ha, MC_I h0⟩, fun e => absurd (by decide) e⟩
theorem s_X12_lay2 {G : GE} (hst : (ge_l G).stackTraces = false) {y c : Nat} {D : UT} {R : Nat → Prop} {g : GT} {κ : Nat} {p1 p2 p3 p4 p5 : Int32} (I : MI y D c R g) (hκ : κ < 25) (h1 : vb p1 (kb κ).2.1) (h2 : vb p2 (kb κ).1) (h3 : vb p3 (kb κ).2.2.1) (h4 : vb p4 (kb κ).2.2.2.1) (h5 : vb p5 (kb κ).2.2.2.2.1) : ex_M G 1 0 0 my_X12_lay [.ref y, .int (nI κ), .int p1, .int p2, .int p3, .int p4, .int p5] g (LV2 y D c R κ g) := by
  obtain ⟨A, hA, ha, h0⟩ := I
  refine ex_M_of ok_X12_lay cw_X12_lay rfl hst (Nat.le_of_ble_eq_true rfl) ?_
  refine ex_aload_n ok_X12_lay (mi 0 rfl) rfl ?_
  refine ex_iconst ok_X12_lay (mi 1 rfl) ?_
  refine ex_putI ok_X12_lay (mi 2 rfl) rfl (fk h0.1 0 rfl) rfl ?_
  exact ex_ls (ls' := [(0, .ref y), (1, .int (nI κ)), (2, .int p1), (3, .int p2), (4, .int p3), (5, .int p4), (6, .int p5)]) ⟨rfl, rfl, rfl, rfl, rfl, rfl, rfl, trivial⟩ (lay5b (g0 := g) hst hA (by rw [gxI_I, if_neg (fun k => absurd k.1 (by decide))]; exact ha) (MC_I h0) hκ h1 h2 h3 h4 h5 (fun _ => MX_I))
/-- a message but for what it carries -/
def MK9 (y : Nat) (g : GT) (j κ m : Nat) : Prop := (gx_A g (y + 50) j = nI κ) ∧ (vb (gx_A g (y + 52) j) (kb κ).1) ∧ (vb (gx_A g (y + 51) j) (kb κ).2.1) ∧ (vb (gx_A g (y + 53) (3 * j)) (kb κ).2.2.1) ∧ (vb (gx_A g (y + 53) (3 * j + 1)) (kb κ).2.2.2.1) ∧ (vb (gx_A g (y + 53) (3 * j + 2)) (kb κ).2.2.2.2.1) ∧ (vb (gx_A g (y + 55) (2 * j + 1)) (kb κ).2.2.2.2.2.1) ∧ (m < (kb κ).2.2.2.2.2.2) ∧ (gx_A g (y + 54) j = nI m)
theorem MK9_q {y : Nat} {g g1 : GT} {j κ m : Nat} (h : MK9 y g j κ m) (e : ∀ c, c < 56 → ∀ i, gx_A g1 (y + c) i = gx_A g (y + c) i) : MK9 y g1 j κ m := by
  obtain ⟨h1, h2, h3, h4, h5, h6, h7, h8, h9⟩ := h
  have e0 := e 50 (by decide)
  have e1 := e 51 (by decide)
  have e2 := e 52 (by decide)
  have e3 := e 53 (by decide)
  have e4 := e 54 (by decide)
  have e5 := e 55 (by decide)
  exact ⟨by rw [e0]; exact h1, by rw [e2]; exact h2, by rw [e1]; exact h3, by rw [e3]; exact h4, by rw [e3]; exact h5, by rw [e3]; exact h6, by rw [e5]; exact h7, h8, by rw [e4]; exact h9⟩
theorem tw_loop {G : GE} {y c B f t κ m : Nat} {D : UT} {R : Nat → Prop} {q : Nat → Int32} (hB : B ≤ 400) (hf : f < 402) (ht : t < 402) (hκ : κ < 25) (p10 : κ = 2 ∨ κ = 17 ∨ κ = 18 → ∀ i, i < m → vp_in (q (2 * i)) 300) (p11 : κ = 4 → ∀ i, i < m → vp_in (q (3 * i)) 16) : ∀ n k : Nat, k + n = 600 → ∀ g : GT, gx_I g 1258 y = nI t → gx_I g 1248 y = nI B → MC y D (fun j => j = c) (fun j => j = t) R (fun p => p < B) g → MK9 y g t κ m → (∀ j, j < 600 → gx_A g (y + 56) (600 * f + j) = q j) → (∀ j, j < k → gx_A g (y + 56) (600 * t + j) = q j) → ex_W G 2 0 0 M_X12_twice 141 [(0, .ref y), (2, .int (nI f)), (3, .int (nI k))] [] g (SM y D c R pI) := by
  intro n
  induction n with
  | zero =>
    intro k hk g hl hb h k9 hs hd
    obtain rfl : k = 600 := by omega
    have S := h.1
    refine ex_iload_n ok_X12_twice (mi 97 rfl) rfl ?_
    refine ex_sipush ok_X12_twice (mi 98 rfl) ?_
    refine ex_icmp_ge (tgt := 181) ok_X12_twice (mi 99 rfl) rfl (fun _ => ?_) (fun hn => absurd (by decide) hn)
    refine ex_aload_n ok_X12_twice (mi 119 rfl) rfl ?_
    refine ex_getI ok_X12_twice (mi 120 rfl) rfl rfl (fk S 0 rfl) ?_
    refine ex_iret ok_X12_twice (mi 121 rfl) rfl ?_
    obtain ⟨k1, k2, k3, k4, k5, k6, k7, k8, k9⟩ := k9
    have hm1 : m < 301 := Nat.lt_of_lt_of_le k8 (kb_301 κ hκ)
    have mk : MK y g t κ m := ⟨k1, k2, k3, k4, k5, k6, k7, k8, k9, fun e i hi => by rw [hd (2 * i) (by omega)]; exact p10 e i hi, fun e i hi => by
      have hm2 : m < 17 := by
        rw [e] at k8
        exact k8
      rw [hd (3 * i) (by omega)]; exact p11 e i hi⟩
    exact ⟨_, rfl, ⟨_, rfl⟩, B, hB, hb, MC_w h (fun _ _ _ k => k) (fun j _ _ e => by rw [show j = t from e]; exact ⟨κ, m, hκ, mk⟩) (fun _ _ k => Or.inr k)⟩
  | succ n ih =>
    intro k hk g hl hb h k9 hs hd
    have S := h.1
    refine ex_iload_n ok_X12_twice (mi 97 rfl) rfl ?_
    refine ex_sipush ok_X12_twice (mi 98 rfl) ?_
    refine ex_icmp_ge (tgt := 181) ok_X12_twice (mi 99 rfl) rfl (fun hn => absurd hn (nI_ge (b := 600) (by omega) (by decide))) (fun _ => ?_)
    refine ex_aload_n ok_X12_twice (mi 100 rfl) rfl ?_
    refine ex_getRx ok_X12_twice (mi 101 rfl) rfl rfl (fk S 0 rfl) (fr S 55 rfl) (fk S 56 rfl) (by decide) ?_
    refine ex_sipush ok_X12_twice (mi 102 rfl) ?_
    refine ex_aload_n ok_X12_twice (mi 103 rfl) rfl ?_
    refine ex_getI ok_X12_twice (mi 104 rfl) rfl rfl (fk S 0 rfl) ?_
    refine ex_top (w := nI t) hl ?_
    refine ex_imul ok_X12_twice (mi 105 rfl) ?_
    refine ex_top (w := nI (600 * t)) (nI_mulc rfl) ?_
    refine ex_iload_n ok_X12_twice (mi 106 rfl) rfl ?_
    refine ex_iadd ok_X12_twice (mi 107 rfl) ?_
    refine ex_top (w := nI (600 * t + k)) (nI_add _ _) ?_
    refine ex_aload_n ok_X12_twice (mi 108 rfl) rfl ?_
    refine ex_getRx ok_X12_twice (mi 109 rfl) rfl rfl (fk S 0 rfl) (fr S 55 rfl) (fk S 56 rfl) (by decide) ?_
    refine ex_sipush ok_X12_twice (mi 110 rfl) ?_
    refine ex_iload_n ok_X12_twice (mi 111 rfl) rfl ?_
    refine ex_imul ok_X12_twice (mi 112 rfl) ?_
    refine ex_top (w := nI (600 * f)) (nI_mulc rfl) ?_
    refine ex_iload_n ok_X12_twice (mi 113 rfl) rfl ?_
    refine ex_iadd ok_X12_twice (mi 114 rfl) ?_
    refine ex_top (w := nI (600 * f + k)) (nI_add _ _) ?_
    refine sm_iald ok_X12_twice (mi 115 rfl) (fk S 56 rfl) (fn S 56 rfl) rfl (by omega) (by decide) ?_
    refine ex_top (w := q k) (hs k (by omega)) ?_
    refine sm_iast ok_X12_twice (mi 116 rfl) (fk S 56 rfl) (fn S 56 rfl) rfl (by omega) (by decide) ?_
    refine ex_iincx (w := nI (k + 1)) ok_X12_twice (mi 117 rfl) rfl (nI_1 k) ?_
    refine ex_goto (tgt := 141) ok_X12_twice (mi 118 rfl) rfl ?_
    have e1 := MC_m (o := 56) (i := 600 * t + k) (a := t) (v := q k) h rfl (by decide) (by decide) (show 600 * t ≤ 600 * t + k ∧ 600 * t + k < 600 * t + 600 by omega)
    refine ex_ls (ls' := [(0, .ref y), (2, .int (nI f)), (3, .int (nI (k + 1)))]) ⟨rfl, rfl, rfl, trivial⟩ (ih (k + 1) (by omega) _ hl hb e1 (MK9_q k9 (fun c hc i => pxA_n (by omega))) (fun j hj => ?_) (fun j hj => ?_))
    · by_cases e : 600 * f + j = 600 * t + k
      · rw [e, pxA_e, show j = k by omega]
      · rw [pxA_i e]; exact hs j hj
    · by_cases e : j = k
      · rw [e, pxA_e]
      · rw [pxA_i (by omega)]; exact hd j (by omega)
theorem twice22 {G : GE} (hst : (ge_l G).stackTraces = false) {y c A k : Nat} {D : UT} {R : Nat → Prop} {g : GT} (hA : A ≤ 400) (ha : gx_I g 1248 y = nI A) (h0 : MC y D (fun j => j = c) (fun _ => False) R (fun p => p < A) g) (hk : k < A) : ex_W G 2 0 0 M_X12_twice 22 [(0, .ref y), (1, .int (nI k))] [] g (SM y D c R pI) := by
  have I : MI y D c R g := ⟨A, hA, ha, h0⟩
  have S := h0.1
  refine ex_aload_n ok_X12_twice (mi 14 rfl) rfl ?_
  refine ex_getRx ok_X12_twice (mi 15 rfl) rfl rfl (fk S 0 rfl) (fr S 47 rfl) (fk S 48 rfl) (by decide) ?_
  refine ex_iload_n ok_X12_twice (mi 16 rfl) rfl ?_
  refine sm_iald ok_X12_twice (mi 17 rfl) (fk S 48 rfl) (fn S 48 rfl) rfl (by omega) (by decide) ?_
  obtain ⟨f, hf, ef⟩ := vp_in_of (MC_bd h0 14 rfl (i := k) (by omega)) (by decide)
  refine ex_top (w := nI f) ef ?_
  refine ex_istore_n ok_X12_twice (mi 18 rfl) ?_
  obtain ⟨κ, m, hκ, mk⟩ := MI_mt I hf
  refine ex_aload_n ok_X12_twice (mi 19 rfl) rfl ?_
  refine ex_aload_n ok_X12_twice (mi 20 rfl) rfl ?_
  refine ex_getRx ok_X12_twice (mi 21 rfl) rfl rfl (fk S 0 rfl) (fr S 49 rfl) (fk S 50 rfl) (by decide) ?_
  refine ex_iload_n ok_X12_twice (mi 22 rfl) rfl ?_
  refine sm_iald ok_X12_twice (mi 23 rfl) (fk S 50 rfl) (fn S 50 rfl) rfl hf (by decide) ?_
  refine ex_top (w := nI κ) mk.1 ?_
  refine ex_aload_n ok_X12_twice (mi 24 rfl) rfl ?_
  refine ex_getRx ok_X12_twice (mi 25 rfl) rfl rfl (fk S 0 rfl) (fr S 50 rfl) (fk S 51 rfl) (by decide) ?_
  refine ex_iload_n ok_X12_twice (mi 26 rfl) rfl ?_
  refine sm_iald ok_X12_twice (mi 27 rfl) (fk S 51 rfl) (fn S 51 rfl) rfl hf (by decide) ?_
  refine ex_aload_n ok_X12_twice (mi 28 rfl) rfl ?_
  refine ex_getRx ok_X12_twice (mi 29 rfl) rfl rfl (fk S 0 rfl) (fr S 51 rfl) (fk S 52 rfl) (by decide) ?_
  refine ex_iload_n ok_X12_twice (mi 30 rfl) rfl ?_
  refine sm_iald ok_X12_twice (mi 31 rfl) (fk S 52 rfl) (fn S 52 rfl) rfl hf (by decide) ?_
  refine ex_aload_n ok_X12_twice (mi 32 rfl) rfl ?_
  refine ex_getRx ok_X12_twice (mi 33 rfl) rfl rfl (fk S 0 rfl) (fr S 52 rfl) (fk S 53 rfl) (by decide) ?_
  refine ex_iconst ok_X12_twice (mi 34 rfl) ?_
  refine ex_iload_n ok_X12_twice (mi 35 rfl) rfl ?_
  refine ex_imul ok_X12_twice (mi 36 rfl) ?_
  refine ex_top (w := nI (3 * f)) (nI_mulc rfl) ?_
  refine sm_iald ok_X12_twice (mi 37 rfl) (fk S 53 rfl) (fn S 53 rfl) rfl (by omega) (by decide) ?_
  refine ex_aload_n ok_X12_twice (mi 38 rfl) rfl ?_
  refine ex_getRx ok_X12_twice (mi 39 rfl) rfl rfl (fk S 0 rfl) (fr S 52 rfl) (fk S 53 rfl) (by decide) ?_
  refine ex_iconst ok_X12_twice (mi 40 rfl) ?_
  refine ex_iload_n ok_X12_twice (mi 41 rfl) rfl ?_
  refine ex_imul ok_X12_twice (mi 42 rfl) ?_
  refine ex_top (w := nI (3 * f)) (nI_mulc rfl) ?_
  refine ex_iconst ok_X12_twice (mi 43 rfl) ?_
  refine ex_iadd ok_X12_twice (mi 44 rfl) ?_
  refine ex_top (w := nI (3 * f + 1)) (nI_add _ 1) ?_
  refine sm_iald ok_X12_twice (mi 45 rfl) (fk S 53 rfl) (fn S 53 rfl) rfl (by omega) (by decide) ?_
  refine ex_aload_n ok_X12_twice (mi 46 rfl) rfl ?_
  refine ex_getRx ok_X12_twice (mi 47 rfl) rfl rfl (fk S 0 rfl) (fr S 52 rfl) (fk S 53 rfl) (by decide) ?_
  refine ex_iconst ok_X12_twice (mi 48 rfl) ?_
  refine ex_iload_n ok_X12_twice (mi 49 rfl) rfl ?_
  refine ex_imul ok_X12_twice (mi 50 rfl) ?_
  refine ex_top (w := nI (3 * f)) (nI_mulc rfl) ?_
  refine ex_iconst ok_X12_twice (mi 51 rfl) ?_
  refine ex_iadd ok_X12_twice (mi 52 rfl) ?_
  refine ex_top (w := nI (3 * f + 2)) (nI_add _ 2) ?_
  refine sm_iald ok_X12_twice (mi 53 rfl) (fk S 53 rfl) (fn S 53 rfl) rfl (by omega) (by decide) ?_
  refine sm_V (As := [_, _, _, _, _, _]) ok_X12_twice (mi 54 rfl) rfl (s_X12_lay2 hst I hκ mk.2.2.1 mk.2.1 mk.2.2.2.1 mk.2.2.2.2.1 mk.2.2.2.2.2.1) rfl (fk S 0 rfl) rfl rfl (by decide) (by decide) (Nat.le_of_ble_eq_true rfl) (by decide) LV2_no (fun z g1 q => ?_)
  obtain ⟨b, e, hb, I1, hl⟩ := q
  cases e
  refine ex_if_eq (tgt := 181) ok_X12_twice (mi 55 rfl) rfl (fun _ => ?_) (fun hne => ?_)
  · refine ex_aload_n ok_X12_twice (mi 119 rfl) rfl ?_
    refine ex_getI ok_X12_twice (mi 120 rfl) rfl rfl (fk (MI_s I1) 0 rfl) ?_
    refine ex_iret ok_X12_twice (mi 121 rfl) rfl ?_
    exact ⟨_, rfl, ⟨_, rfl⟩, I1⟩
  · obtain ⟨t, ht, lt, mkt, mx⟩ := hl hne
    have mkf : ∃ m', MK y g1 f κ m' := by
      by_cases e : f = t
      · rw [e]; exact ⟨0, mkt⟩
      · exact ⟨m, mx f κ m e hκ mk⟩
    obtain ⟨m', mkf⟩ := mkf
    obtain ⟨B, hB, hb1, h1⟩ := I1
    have S1 := h1.1
    have e0 : MC y D (fun j => j = c) (fun j => j = t) R (fun p => p < B) g1 := MC_w h1 (fun _ _ _ k => k) (fun _ _ _ k => k.elim) (fun _ _ k => Or.inr k)
    refine ex_aload_n ok_X12_twice (mi 56 rfl) rfl ?_
    refine ex_getRx ok_X12_twice (mi 57 rfl) rfl rfl (fk S1 0 rfl) (fr S1 53 rfl) (fk S1 54 rfl) (by decide) ?_
    refine ex_aload_n ok_X12_twice (mi 58 rfl) rfl ?_
    refine ex_getI ok_X12_twice (mi 59 rfl) rfl rfl (fk S1 0 rfl) ?_
    refine ex_top (w := nI t) lt ?_
    refine ex_aload_n ok_X12_twice (mi 60 rfl) rfl ?_
    refine ex_getRx ok_X12_twice (mi 61 rfl) rfl rfl (fk S1 0 rfl) (fr S1 53 rfl) (fk S1 54 rfl) (by decide) ?_
    refine ex_iload_n ok_X12_twice (mi 62 rfl) rfl ?_
    refine sm_iald ok_X12_twice (mi 63 rfl) (fk S1 54 rfl) (fn S1 54 rfl) rfl hf (by decide) ?_
    refine ex_top (w := nI m') mkf.2.2.2.2.2.2.2.2.1 ?_
    refine sm_iast ok_X12_twice (mi 64 rfl) (fk S1 54 rfl) (fn S1 54 rfl) rfl ht (by decide) ?_
    have e1 := MC_m (o := 54) (i := t) (a := t) (v := nI m') e0 rfl (by decide) (by decide) (show 1 * t ≤ t ∧ t < 1 * t + 1 by omega)
    have S2 := e1.1
    refine ex_aload_n ok_X12_twice (mi 65 rfl) rfl ?_
    refine ex_getRx ok_X12_twice (mi 66 rfl) rfl rfl (fk S2 0 rfl) (fr S2 54 rfl) (fk S2 55 rfl) (by decide) ?_
    refine ex_iconst ok_X12_twice (mi 67 rfl) ?_
    refine ex_aload_n ok_X12_twice (mi 68 rfl) rfl ?_
    refine ex_getI ok_X12_twice (mi 69 rfl) rfl rfl (fk S2 0 rfl) ?_
    refine ex_top (w := nI t) lt ?_
    refine ex_imul ok_X12_twice (mi 70 rfl) ?_
    refine ex_top (w := nI (2 * t)) (nI_mulc rfl) ?_
    refine ex_aload_n ok_X12_twice (mi 71 rfl) rfl ?_
    refine ex_getRx ok_X12_twice (mi 72 rfl) rfl rfl (fk S2 0 rfl) (fr S2 54 rfl) (fk S2 55 rfl) (by decide) ?_
    refine ex_iconst ok_X12_twice (mi 73 rfl) ?_
    refine ex_iload_n ok_X12_twice (mi 74 rfl) rfl ?_
    refine ex_imul ok_X12_twice (mi 75 rfl) ?_
    refine ex_top (w := nI (2 * f)) (nI_mulc rfl) ?_
    refine sm_iald ok_X12_twice (mi 76 rfl) (fk S2 55 rfl) (fn S2 55 rfl) rfl (by omega) (by decide) ?_
    generalize gx_A (px_A g1 (y + 54) t (nI m')) (y + 55) (2 * f) = v2
    refine sm_iast ok_X12_twice (mi 77 rfl) (fk S2 55 rfl) (fn S2 55 rfl) rfl (by omega) (by decide) ?_
    have e2 := MC_m (o := 55) (i := 2 * t) (a := t) (v := v2) e1 rfl (by decide) (by decide) (show 2 * t ≤ 2 * t ∧ 2 * t < 2 * t + 2 by omega)
    have S3 := e2.1
    refine ex_aload_n ok_X12_twice (mi 78 rfl) rfl ?_
    refine ex_getRx ok_X12_twice (mi 79 rfl) rfl rfl (fk S3 0 rfl) (fr S3 54 rfl) (fk S3 55 rfl) (by decide) ?_
    refine ex_iconst ok_X12_twice (mi 80 rfl) ?_
    refine ex_aload_n ok_X12_twice (mi 81 rfl) rfl ?_
    refine ex_getI ok_X12_twice (mi 82 rfl) rfl rfl (fk S3 0 rfl) ?_
    refine ex_top (w := nI t) lt ?_
    refine ex_imul ok_X12_twice (mi 83 rfl) ?_
    refine ex_top (w := nI (2 * t)) (nI_mulc rfl) ?_
    refine ex_iconst ok_X12_twice (mi 84 rfl) ?_
    refine ex_iadd ok_X12_twice (mi 85 rfl) ?_
    refine ex_top (w := nI (2 * t + 1)) (nI_add _ 1) ?_
    refine ex_aload_n ok_X12_twice (mi 86 rfl) rfl ?_
    refine ex_getRx ok_X12_twice (mi 87 rfl) rfl rfl (fk S3 0 rfl) (fr S3 54 rfl) (fk S3 55 rfl) (by decide) ?_
    refine ex_iconst ok_X12_twice (mi 88 rfl) ?_
    refine ex_iload_n ok_X12_twice (mi 89 rfl) rfl ?_
    refine ex_imul ok_X12_twice (mi 90 rfl) ?_
    refine ex_top (w := nI (2 * f)) (nI_mulc rfl) ?_
    refine ex_iconst ok_X12_twice (mi 91 rfl) ?_
    refine ex_iadd ok_X12_twice (mi 92 rfl) ?_
    refine ex_top (w := nI (2 * f + 1)) (nI_add _ 1) ?_
    refine sm_iald ok_X12_twice (mi 93 rfl) (fk S3 55 rfl) (fn S3 55 rfl) rfl (by omega) (by decide) ?_
    refine ex_top (w := gx_A g1 (y + 55) (2 * f + 1)) ((pxA_i (by omega)).trans (pxA_n (by decide))) ?_
    refine sm_iast ok_X12_twice (mi 94 rfl) (fk S3 55 rfl) (fn S3 55 rfl) rfl (by omega) (by decide) ?_
    have e3 := MC_m (o := 55) (i := 2 * t + 1) (a := t) (v := gx_A g1 (y + 55) (2 * f + 1)) e2 rfl (by decide) (by decide) (show 2 * t ≤ 2 * t + 1 ∧ 2 * t + 1 < 2 * t + 2 by omega)
    refine ex_iconst ok_X12_twice (mi 95 rfl) ?_
    refine ex_istore_n ok_X12_twice (mi 96 rfl) ?_
    have hn : ∀ c, c ≠ 54 → c ≠ 55 → ∀ i, gx_A (px_A (px_A (px_A g1 (y + 54) t (nI m')) (y + 55) (2 * t) v2) (y + 55) (2 * t + 1) (gx_A g1 (y + 55) (2 * f + 1))) (y + c) i = gx_A g1 (y + c) i := fun c c1 c2 i => (pxA_n c2).trans ((pxA_n c2).trans (pxA_n c1))
    have k9 : MK9 y (px_A (px_A (px_A g1 (y + 54) t (nI m')) (y + 55) (2 * t) v2) (y + 55) (2 * t + 1) (gx_A g1 (y + 55) (2 * f + 1))) t κ m' := by
      refine ⟨(hn 50 (by decide) (by decide) _).trans mkt.1, ?_, ?_, ?_, ?_, ?_, ?_, mkf.2.2.2.2.2.2.2.1, (pxA_n (by decide)).trans ((pxA_n (by decide)).trans pxA_e)⟩
      · rw [hn 52 (by decide) (by decide)]; exact mkt.2.1
      · rw [hn 51 (by decide) (by decide)]; exact mkt.2.2.1
      · rw [hn 53 (by decide) (by decide)]; exact mkt.2.2.2.1
      · rw [hn 53 (by decide) (by decide)]; exact mkt.2.2.2.2.1
      · rw [hn 53 (by decide) (by decide)]; exact mkt.2.2.2.2.2.1
      · rw [pxA_e]; exact mkf.2.2.2.2.2.2.1
    exact ex_ls (ls' := [(0, .ref y), (2, .int (nI f)), (3, .int (nI 0))]) ⟨rfl, rfl, rfl, trivial⟩ (tw_loop (q := fun j => gx_A g1 (y + 56) (600 * f + j)) hB hf ht hκ mkf.2.2.2.2.2.2.2.2.2.1 mkf.2.2.2.2.2.2.2.2.2.2 600 0 (by omega) _ lt hb1 e3 k9 (fun j _ => hn 56 (by decide) (by decide) _) (fun _ h => absurd h (Nat.not_lt_zero _)))
theorem s_X12_twice {G : GE} (hst : (ge_l G).stackTraces = false) {y c : Nat} {D : UT} {R : Nat → Prop} {g : GT} (I : MI y D c R g) {p0 : Int32} : ex_M G 2 0 0 my_X12_twice [.ref y, .int p0] g (SM y D c R pI) := by
  refine ex_M_of ok_X12_twice cw_X12_twice rfl hst (Nat.le_of_ble_eq_true rfl) ?_
  refine ex_aload_n ok_X12_twice (mi 0 rfl) rfl ?_
  refine ex_iload_n ok_X12_twice (mi 1 rfl) rfl ?_
  refine ex_iconst ok_X12_twice (mi 2 rfl) ?_
  refine ex_aload_n ok_X12_twice (mi 3 rfl) rfl ?_
  obtain ⟨A1, hAA1, haA1, h0A1⟩ := id I
  refine ex_getI ok_X12_twice (mi 4 rfl) rfl rfl (fk (MI_s I) 0 rfl) ?_
  refine ex_top (w := nI A1) haA1 ?_
  refine ex_iconst ok_X12_twice (mi 5 rfl) ?_
  refine ex_isub ok_X12_twice (mi 6 rfl) ?_
  refine sf_Sp (As := [_, _, _]) ok_X12_twice (mi 7 rfl) rfl (s_in hst) rfl rfl rfl (by decide) (Nat.le_of_ble_eq_true rfl) (by decide) (fun z2 p3 => ?_)
  obtain ⟨b4, rfl, hb4⟩ := p3
  refine ex_iconst ok_X12_twice (mi 8 rfl) ?_
  refine ex_iconst ok_X12_twice (mi 9 rfl) ?_
  refine sm_V (As := [_, _, _]) ok_X12_twice (mi 10 rfl) rfl (s_ref hst (MI_s I)) rfl (fk (MI_s I) 0 rfl) rfl rfl (by decide) (by decide) (Nat.le_of_ble_eq_true rfl) (by decide) RF_no (fun z5 g9 p6 => ?_)
  obtain ⟨b7, v8, eb7, egb7, hrb7⟩ := p6
  cases eb7
  subst egb7
  have J10 := MI_I (f := 1200) (v := v8) I (by decide)
  have haA1' : gx_I (px_I g 1200 y v8) 1248 y = nI A1 := by rw [gxI_I, if_neg (fun k => absurd k.1 (by decide))]; exact haA1
  have h0A1' := MC_I (f := 1200) (v := v8) h0A1
  refine ex_if_eq (tgt := 22) ok_X12_twice (mi 11 rfl) rfl (fun h17 => ?_) (fun h17 => ?_)
  · skip
    obtain rfl : b7 = nI 0 := h17.trans (by decide)
    have q11 := hrb7.resolve_right (fun q => absurd q.1 (by decide))
    obtain ⟨eb4, lb4, ub4⟩ := hb4.resolve_left (fun q => q11.2.1 q.1)
    obtain rfl : b4 = nI 1 := eb4.trans (by decide)
    obtain ⟨a12, ha12, rfl⟩ := in_m1 (n := A1) lb4 ub4 (by decide) (by omega)
    exact ex_ls (ls' := [(0, .ref y), (1, .int (nI (a12)))]) ⟨rfl, rfl, trivial⟩ (twice22 hst hAA1 haA1' h0A1' (by omega))
  · skip
    refine ex_iconst ok_X12_twice (mi 12 rfl) ?_
    refine ex_iret ok_X12_twice (mi 13 rfl) rfl ?_
    exact ⟨_, rfl, ⟨_, rfl⟩, J10⟩
