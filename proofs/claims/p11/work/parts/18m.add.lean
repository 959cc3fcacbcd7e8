/-! ===== addEntry ===== -/
def AE (y : Nat) (D : UT) (c : Nat) (R : Nat → Prop) (t κ m : Nat) (la : Int32) : RT → GT → Prop := fun r g => r = .inl none ∧ MI y D c R g ∧ gx_I g 1258 y = la ∧ MK y g t κ (m + 1)
theorem AE_no {y c t κ m : Nat} {D : UT} {R : Nat → Prop} {la : Int32} : ∀ E g', ¬ AE y D c R t κ m la (.inr E) g' := fun E g' h => by
  have := h.1
  cases this
theorem s_X12_addEntry {G : GE} (hst : (ge_l G).stackTraces = false) {y c t κ m r : Nat} {D : UT} {R : Nat → Prop} {g : GT} {p2 : Int32} (I : MI y D c R g) (ht : t < 402) (hk : MK y g t κ m) (h2 : κ = 2 ∨ κ = 17 ∨ κ = 18) (hm : m < 300) (hr : r < 300) : ex_M G 1 0 0 my_X12_addEntry [.ref y, .int (nI t), .int (nI r), .int p2] g (AE y D c R t κ m (gx_I g 1258 y)) := by
  have S := MI_s I
  refine ex_M_of ok_X12_addEntry cw_X12_addEntry rfl hst (Nat.le_of_ble_eq_true rfl) ?_
  refine ex_aload_n ok_X12_addEntry (mi 0 rfl) rfl ?_
  refine ex_getRx ok_X12_addEntry (mi 1 rfl) rfl rfl (fk S 0 rfl) (fr S 55 rfl) (fk S 56 rfl) (by decide) ?_
  refine ex_sipush ok_X12_addEntry (mi 2 rfl) ?_
  refine ex_iload_n ok_X12_addEntry (mi 3 rfl) rfl ?_
  refine ex_imul ok_X12_addEntry (mi 4 rfl) ?_
  refine ex_top (w := nI (600 * t)) (nI_mulc rfl) ?_
  refine ex_iconst ok_X12_addEntry (mi 5 rfl) ?_
  refine ex_aload_n ok_X12_addEntry (mi 6 rfl) rfl ?_
  refine ex_getRx ok_X12_addEntry (mi 7 rfl) rfl rfl (fk S 0 rfl) (fr S 53 rfl) (fk S 54 rfl) (by decide) ?_
  refine ex_iload_n ok_X12_addEntry (mi 8 rfl) rfl ?_
  refine sm_iald ok_X12_addEntry (mi 9 rfl) (fk S 54 rfl) (fn S 54 rfl) rfl ht (by decide) ?_
  refine ex_top (w := nI m) hk.2.2.2.2.2.2.2.2.1 ?_
  refine ex_imul ok_X12_addEntry (mi 10 rfl) ?_
  refine ex_top (w := nI (2 * m)) (nI_mulc rfl) ?_
  refine ex_iadd ok_X12_addEntry (mi 11 rfl) ?_
  refine ex_top (w := nI (600 * t + 2 * m)) (nI_add _ _) ?_
  refine ex_iload_n ok_X12_addEntry (mi 12 rfl) rfl ?_
  refine sm_iast ok_X12_addEntry (mi 13 rfl) (fk S 56 rfl) (fn S 56 rfl) rfl (by omega) (by decide) ?_
  have S1 : sh T12 (px_A g (y + 56) (600 * t + 2 * m) (nI r)) y := shq (sqA sq0) S
  refine ex_aload_n ok_X12_addEntry (mi 14 rfl) rfl ?_
  refine ex_getRx ok_X12_addEntry (mi 15 rfl) rfl rfl (fk S1 0 rfl) (fr S1 55 rfl) (fk S1 56 rfl) (by decide) ?_
  refine ex_sipush ok_X12_addEntry (mi 16 rfl) ?_
  refine ex_iload_n ok_X12_addEntry (mi 17 rfl) rfl ?_
  refine ex_imul ok_X12_addEntry (mi 18 rfl) ?_
  refine ex_top (w := nI (600 * t)) (nI_mulc rfl) ?_
  refine ex_iconst ok_X12_addEntry (mi 19 rfl) ?_
  refine ex_aload_n ok_X12_addEntry (mi 20 rfl) rfl ?_
  refine ex_getRx ok_X12_addEntry (mi 21 rfl) rfl rfl (fk S1 0 rfl) (fr S1 53 rfl) (fk S1 54 rfl) (by decide) ?_
  refine ex_iload_n ok_X12_addEntry (mi 22 rfl) rfl ?_
  refine sm_iald ok_X12_addEntry (mi 23 rfl) (fk S1 54 rfl) (fn S1 54 rfl) rfl ht (by decide) ?_
  refine ex_top (w := nI m) ((pxA_n (by decide)).trans hk.2.2.2.2.2.2.2.2.1) ?_
  refine ex_imul ok_X12_addEntry (mi 24 rfl) ?_
  refine ex_top (w := nI (2 * m)) (nI_mulc rfl) ?_
  refine ex_iadd ok_X12_addEntry (mi 25 rfl) ?_
  refine ex_top (w := nI (600 * t + 2 * m)) (nI_add _ _) ?_
  refine ex_iconst ok_X12_addEntry (mi 26 rfl) ?_
  refine ex_iadd ok_X12_addEntry (mi 27 rfl) ?_
  refine ex_top (w := nI (600 * t + 2 * m + 1)) (nI_add _ 1) ?_
  refine ex_iload_n ok_X12_addEntry (mi 28 rfl) rfl ?_
  refine sm_iast ok_X12_addEntry (mi 29 rfl) (fk S1 56 rfl) (fn S1 56 rfl) rfl (by omega) (by decide) ?_
  have S2 : sh T12 (px_A (px_A g (y + 56) (600 * t + 2 * m) (nI r)) (y + 56) (600 * t + 2 * m + 1) p2) y := shq (sqA sq0) S1
  refine ex_aload_n ok_X12_addEntry (mi 30 rfl) rfl ?_
  refine ex_getRx ok_X12_addEntry (mi 31 rfl) rfl rfl (fk S2 0 rfl) (fr S2 53 rfl) (fk S2 54 rfl) (by decide) ?_
  refine ex_iload_n ok_X12_addEntry (mi 32 rfl) rfl ?_
  refine ex_dup2 ok_X12_addEntry (mi 33 rfl) rfl rfl ?_
  refine sm_iald ok_X12_addEntry (mi 34 rfl) (fk S2 54 rfl) (fn S2 54 rfl) rfl ht (by decide) ?_
  refine ex_top (w := nI m) ((pxA_n (by decide)).trans ((pxA_n (by decide)).trans hk.2.2.2.2.2.2.2.2.1)) ?_
  refine ex_iconst ok_X12_addEntry (mi 35 rfl) ?_
  refine ex_iadd ok_X12_addEntry (mi 36 rfl) ?_
  refine ex_top (w := nI (m + 1)) (nI_add _ 1) ?_
  refine sm_iast ok_X12_addEntry (mi 37 rfl) (fk S2 54 rfl) (fn S2 54 rfl) rfl ht (by decide) ?_
  refine ex_vret ok_X12_addEntry (mi 38 rfl) rfl ?_
  obtain ⟨A, hA, ha, h0⟩ := I
  have m0 : MC y D (fun j => j = c) (fun j => j = t) R (fun p => p < A) g := MC_w h0 (fun _ _ _ k => k) (fun _ _ _ k => k.elim) (fun _ _ k => Or.inr k)
  have m1 := MC_m (o := 56) (i := 600 * t + 2 * m) (a := t) (v := nI r) m0 rfl (by decide) (by decide) (show 600 * t ≤ 600 * t + 2 * m ∧ 600 * t + 2 * m < 600 * t + 600 by omega)
  have m2 := MC_m (o := 56) (i := 600 * t + 2 * m + 1) (a := t) (v := p2) m1 rfl (by decide) (by decide) (show 600 * t ≤ 600 * t + 2 * m + 1 ∧ 600 * t + 2 * m + 1 < 600 * t + 600 by omega)
  have m3 := MC_m (o := 54) (i := t) (a := t) (v := nI (m + 1)) m2 rfl (by decide) (by decide) (show 1 * t ≤ t ∧ t < 1 * t + 1 by omega)
  obtain ⟨k1, k2, k3, k4, k5, k6, k7, k8, k9, k10, k11⟩ := hk
  have hn : ∀ o, o ≠ 54 → o ≠ 56 → ∀ i, gx_A (px_A (px_A (px_A g (y + 56) (600 * t + 2 * m) (nI r)) (y + 56) (600 * t + 2 * m + 1) p2) (y + 54) t (nI (m + 1))) (y + o) i = gx_A g (y + o) i := fun o o1 o2 i => (pxA_n o1).trans ((pxA_n o2).trans (pxA_n o2))
  have mk : MK y (px_A (px_A (px_A g (y + 56) (600 * t + 2 * m) (nI r)) (y + 56) (600 * t + 2 * m + 1) p2) (y + 54) t (nI (m + 1))) t κ (m + 1) := by
    refine ⟨(hn 50 (by decide) (by decide) _).trans k1, by rw [hn 52 (by decide) (by decide)]; exact k2, by rw [hn 51 (by decide) (by decide)]; exact k3, by rw [hn 53 (by decide) (by decide)]; exact k4, by rw [hn 53 (by decide) (by decide)]; exact k5, by rw [hn 53 (by decide) (by decide)]; exact k6, by rw [hn 55 (by decide) (by decide)]; exact k7, ?_, pxA_e, fun q i hi => ?_, fun q => ?_⟩
    · rcases h2 with rfl | rfl | rfl <;> (show m + 1 < 301; omega)
    · rw [pxA_n (by decide), pxA_i (by omega)]
      by_cases e : i = m
      · rw [e, pxA_e]; exact vp_in_nI hr (by decide)
      · rw [pxA_i (by omega)]; exact k10 q i (by omega)
    · rcases h2 with rfl | rfl | rfl <;> cases q
  exact ⟨rfl, ⟨A, hA, ha, MC_w m3 (fun _ _ _ k => k) (fun j _ _ e => by rw [show j = t from e]; exact ⟨κ, m + 1, by omega, mk⟩) (fun _ _ k => Or.inr k)⟩, rfl, mk⟩
/-- the picks of a message -/
theorem MI_pk {y c t κ m i : Nat} {D : UT} {R : Nat → Prop} {g : GT} {v : Int32} (I : MI y D c R g) (hκ : κ < 25) (hk : MK y g t κ m) (hi : i = 2 * t ∨ i = 2 * t + 1 ∧ vb v (kb κ).2.2.2.2.2.1) : MI y D c R (px_A g (y + 55) i v) ∧ MK y (px_A g (y + 55) i v) t κ m := by
  obtain ⟨A, hA, ha, h0⟩ := I
  have m0 : MC y D (fun j => j = c) (fun j => j = t) R (fun p => p < A) g := MC_w h0 (fun _ _ _ k => k) (fun _ _ _ k => k.elim) (fun _ _ k => Or.inr k)
  have m1 := MC_m (o := 55) (i := i) (a := t) (v := v) m0 rfl (by decide) (by decide) (show 2 * t ≤ i ∧ i < 2 * t + 2 by omega)
  obtain ⟨k1, k2, k3, k4, k5, k6, k7, k8, k9, k10, k11⟩ := hk
  have mk : MK y (px_A g (y + 55) i v) t κ m := by
    refine ⟨(pxA_n (by decide)).trans k1, by rw [pxA_n (by decide)]; exact k2, by rw [pxA_n (by decide)]; exact k3, by rw [pxA_n (by decide)]; exact k4, by rw [pxA_n (by decide)]; exact k5, by rw [pxA_n (by decide)]; exact k6, ?_, k8, (pxA_n (by decide)).trans k9, fun q i hi => by rw [pxA_n (by decide)]; exact k10 q i hi, fun q i hi => by rw [pxA_n (by decide)]; exact k11 q i hi⟩
    rcases hi with e | ⟨e, hv⟩
    · rw [pxA_i (by omega)]; exact k7
    · rw [e, pxA_e]; exact hv
  exact ⟨⟨A, hA, ha, MC_w m1 (fun _ _ _ k => k) (fun j _ _ e => by rw [show j = t from e]; exact ⟨κ, m, hκ, mk⟩) (fun _ _ k => Or.inr k)⟩, mk⟩
/-- what lies behind the entries of a message -/
theorem MI_py {y c t m i : Nat} {D : UT} {R : Nat → Prop} {g : GT} {v : Int32} (I : MI y D c R g) (hk : MK y g t 4 m) (h1 : 600 * t + 3 * m ≤ i) (h2 : i < 600 * t + 600) : MI y D c R (px_A g (y + 56) i v) ∧ MK y (px_A g (y + 56) i v) t 4 m := by
  obtain ⟨A, hA, ha, h0⟩ := I
  have m0 : MC y D (fun j => j = c) (fun j => j = t) R (fun p => p < A) g := MC_w h0 (fun _ _ _ k => k) (fun _ _ _ k => k.elim) (fun _ _ k => Or.inr k)
  have m1 := MC_m (o := 56) (i := i) (a := t) (v := v) m0 rfl (by decide) (by decide) (show 600 * t ≤ i ∧ i < 600 * t + 600 by omega)
  obtain ⟨k1, k2, k3, k4, k5, k6, k7, k8, k9, k10, k11⟩ := hk
  have mk : MK y (px_A g (y + 56) i v) t 4 m :=
    ⟨(pxA_n (by decide)).trans k1, by rw [pxA_n (by decide)]; exact k2, by rw [pxA_n (by decide)]; exact k3, by rw [pxA_n (by decide)]; exact k4, by rw [pxA_n (by decide)]; exact k5, by rw [pxA_n (by decide)]; exact k6, by rw [pxA_n (by decide)]; exact k7, k8, (pxA_n (by decide)).trans k9, fun q => absurd q (by decide), fun q i hi => by rw [pxA_i (by omega)]; exact k11 q i hi⟩
  exact ⟨⟨A, hA, ha, MC_w m1 (fun _ _ _ k => k) (fun j _ _ e => by rw [show j = t from e]; exact ⟨4, m, by decide, mk⟩) (fun _ _ k => Or.inr k)⟩, mk⟩
theorem MI_mn {y c t m : Nat} {D : UT} {R : Nat → Prop} {g : GT} (I : MI y D c R g) (hk : MK y g t 4 m) (hm : m < 16) (hp : vp_in (gx_A g (y + 56) (600 * t + 3 * m)) 16) : MI y D c R (px_A g (y + 54) t (nI (m + 1))) ∧ MK y (px_A g (y + 54) t (nI (m + 1))) t 4 (m + 1) := by
  obtain ⟨A, hA, ha, h0⟩ := I
  have m0 : MC y D (fun j => j = c) (fun j => j = t) R (fun p => p < A) g := MC_w h0 (fun _ _ _ k => k) (fun _ _ _ k => k.elim) (fun _ _ k => Or.inr k)
  have m1 := MC_m (o := 54) (i := t) (a := t) (v := nI (m + 1)) m0 rfl (by decide) (by decide) (show 1 * t ≤ t ∧ t < 1 * t + 1 by omega)
  obtain ⟨k1, k2, k3, k4, k5, k6, k7, k8, k9, k10, k11⟩ := hk
  have mk : MK y (px_A g (y + 54) t (nI (m + 1))) t 4 (m + 1) :=
    ⟨(pxA_n (by decide)).trans k1, by rw [pxA_n (by decide)]; exact k2, by rw [pxA_n (by decide)]; exact k3, by rw [pxA_n (by decide)]; exact k4, by rw [pxA_n (by decide)]; exact k5, by rw [pxA_n (by decide)]; exact k6, by rw [pxA_n (by decide)]; exact k7, show m + 1 < 17 by omega, pxA_e, fun q => absurd q (by decide), fun q i hi => by
      rw [pxA_n (by decide)]
      by_cases e : i = m
      · rw [e]; exact hp
      · exact k11 q i (by omega)⟩
  exact ⟨⟨A, hA, ha, MC_w m1 (fun _ _ _ k => k) (fun j _ _ e => by rw [show j = t from e]; exact ⟨4, m + 1, by decide, mk⟩) (fun _ _ k => Or.inr k)⟩, mk⟩
section EMP
variable {G : GE} {d mc ms : Nat} {M : MT} {pc : Nat} {ls : List (Nat × Value)} {st stk : List Value} {g : GT} {Q : RT → GT → Prop} {y c : Nat} {D : UT} {R : Nat → Prop}
theorem mf_pk {t κ m j : Nat} {i v : Int32} (I : MI y D c R g) (hM : mt_ok M = true) (hf : mt_in M pc (.iastore) 1) (hk : gx_K g (y + 55) = 50) (hN : gx_N g (y + 55) = 804) (hi : i = nI j) (hj : j < 804) (hκ : κ < 25) (hm : MK y g t κ m) (h2 : j = 2 * t ∨ j = 2 * t + 1 ∧ vb v (kb κ).2.2.2.2.2.1) (k : ∀ g', MI y D c R g' → gx_I g' 1258 y = gx_I g 1258 y → MK y g' t κ m → ex_W G d mc ms M (pc + 1) ls st g' Q) : ex_W G d mc ms M pc ls (.int v :: .int i :: .ref (y + 55) :: st) g Q :=
  sm_iast hM hf hk hN hi hj (by decide) (k _ (MI_pk I hκ hm h2).1 rfl (MI_pk I hκ hm h2).2)
theorem mf_py {t m j : Nat} {i v : Int32} (I : MI y D c R g) (hM : mt_ok M = true) (hf : mt_in M pc (.iastore) 1) (hk : gx_K g (y + 56) = 50) (hN : gx_N g (y + 56) = 241200) (hi : i = nI j) (hj : j < 241200) (hm : MK y g t 4 m) (h1 : 600 * t + 3 * m ≤ j) (h2 : j < 600 * t + 600) (k : ∀ g', MI y D c R g' → gx_I g' 1258 y = gx_I g 1258 y → MK y g' t 4 m → (∀ q, q ≠ j → gx_A g' (y + 56) q = gx_A g (y + 56) q) → gx_A g' (y + 56) j = v → ex_W G d mc ms M (pc + 1) ls st g' Q) : ex_W G d mc ms M pc ls (.int v :: .int i :: .ref (y + 56) :: st) g Q :=
  sm_iast hM hf hk hN hi hj (by decide) (k _ (MI_py I hm h1 h2).1 rfl (MI_py I hm h1 h2).2 (fun q hq => pxA_i hq) pxA_e)
theorem mf_mn {t m : Nat} {i : Int32} (I : MI y D c R g) (hM : mt_ok M = true) (hf : mt_in M pc (.iastore) 1) (hk : gx_K g (y + 54) = 50) (hN : gx_N g (y + 54) = 402) (hi : i = nI t) (hj : t < 402) (hm : MK y g t 4 m) (h1 : m < 16) (hp : vp_in (gx_A g (y + 56) (600 * t + 3 * m)) 16) (k : ∀ g', MI y D c R g' → gx_I g' 1258 y = gx_I g 1258 y → MK y g' t 4 (m + 1) → ex_W G d mc ms M (pc + 1) ls st g' Q) : ex_W G d mc ms M pc ls (.int (nI (m + 1)) :: .int i :: .ref (y + 54) :: st) g Q :=
  sm_iast hM hf hk hN hi hj (by decide) (k _ (MI_mn I hm h1 hp).1 rfl (MI_mn I hm h1 hp).2)
end EMP
theorem MI_ph2 {y c i : Nat} {D : UT} {R : Nat → Prop} {g : GT} (I : MI y D c R g) : MI y D c R (px_A g (y + 2) i (gx_A g (y + 2) i)) := by
  obtain ⟨A, h1, h2, h3⟩ := I
  exact ⟨A, h1, h2, MC_ph h3 (fun hi hn => h3.2.2.1 i hi (Or.inl hn))⟩
theorem mf_ph2 {G : GE} {d mc ms : Nat} {M : MT} {pc : Nat} {ls : List (Nat × Value)} {st : List Value} {g : GT} {Q : RT → GT → Prop} {y c : Nat} {D : UT} {R : Nat → Prop} {j : Nat} {i : Int32} (I : MI y D c R g) (hM : mt_ok M = true) (hf : mt_in M pc (.iastore) 1) (hk : gx_K g (y + 2) = 50) (hN : gx_N g (y + 2) = 3) (hi : i = nI j) (hj : j < 3) (k : ∀ g', MI y D c R g' → KK y g g' → ex_W G d mc ms M (pc + 1) ls st g' Q) : ex_W G d mc ms M pc ls (.int (gx_A g (y + 2) j) :: .int i :: .ref (y + 2) :: st) g Q :=
  sm_iast hM hf hk hN hi hj (by decide) (k _ (MI_ph2 I) (KK_A (by omega)))
