/-! ===== the model's rules: stores that keep it, what is known of what is read ===== -/
/-- the messages are the same -/
def KK (y : Nat) (g g1 : GT) : Prop := (∀ o, 50 ≤ o → o < 57 → ∀ i, gx_A g1 (y + o) i = gx_A g (y + o) i) ∧ gx_I g1 1258 y = gx_I g 1258 y
theorem KK_A {y o i : Nat} {g : GT} {v : Int32} (h : o < 50 ∨ 57 ≤ o) : KK y g (px_A g (y + o) i v) := ⟨fun q q1 q2 j => pxA_n (by omega), rfl⟩
theorem KK_mk {y t κ m : Nat} {g g1 : GT} (k : KK y g g1) (h : MK y g t κ m) : MK y g1 t κ m := MK_q h k.1
theorem MI_A {y c o i : Nat} {D : UT} {R : Nat → Prop} {g : GT} {v : Int32} (I : MI y D c R g) (ho : ([1, 2, 3, 6, 8, 11, 14, 15, 21, 27, 30, 33, 36, 37, 41, 42, 44, 48, 49, 50, 51, 52, 53, 54, 55, 56].contains o) = false) (hl : o < 60) : MI y D c R (px_A g (y + o) i v) := by
  obtain ⟨A, h1, h2, h3⟩ := I
  exact ⟨A, h1, h2, MC_A h3 ho hl⟩
theorem MI_B {y c o i B : Nat} {D : UT} {R : Nat → Prop} {g : GT} {v : Int32} (I : MI y D c R g) (ho : (BMt.all (fun q => q.1 != o || q.2.2 == B)) = true) (hl : o < 48) (hs : o ≠ 1 ∧ o ≠ 2 ∧ o ≠ 3) (hv : vp_in v B) : MI y D c R (px_A g (y + o) i v) := by
  obtain ⟨A, h1, h2, h3⟩ := I
  exact ⟨A, h1, h2, MC_B h3 ho hl hs hv⟩
theorem MI_ph {y c i : Nat} {D : UT} {R : Nat → Prop} {g : GT} {v : Int32} (I : MI y D c R g) (hv : v = 0 ∨ R i) : MI y D c R (px_A g (y + 2) i v) := by
  obtain ⟨A, h1, h2, h3⟩ := I
  exact ⟨A, h1, h2, MC_ph h3 (fun hi hn => h3.2.2.1 i hi (Or.inr (hv.resolve_left hn)))⟩
theorem MI_rd {y c i : Nat} {D : UT} {R : Nat → Prop} {g : GT} (I : MI y D c R g) (hi : i < 3) (hR : R i) : vp_in (gx_A g (y + 3) i) 300 := by
  obtain ⟨A, h1, h2, h3⟩ := I
  exact h3.2.2.1 i hi (Or.inr hR)
theorem MI_bd {y c : Nat} {D : UT} {R : Nat → Prop} {g : GT} (I : MI y D c R g) (n : Nat) {o N B i : Nat} (hn : BMt[n]? = some (o, N, B)) (hi : i < N) : vp_in (gx_A g (y + o) i) B := by
  obtain ⟨A, h1, h2, h3⟩ := I
  exact MC_bd h3 n hn hi
theorem MI_mt {y c j : Nat} {D : UT} {R : Nat → Prop} {g : GT} (I : MI y D c R g) (hj : j < 402) : MTY y g j := by
  obtain ⟨A, h1, h2, h3⟩ := I
  exact h3.2.2.2.1 j hj id
/-- a leader whose phase is not 0 has a round -/
theorem MI_Ra {y c l : Nat} {D : UT} {R : Nat → Prop} {g : GT} (I : MI y D c R g) (hp : gx_A g (y + 2) l ≠ 0) : MI y D c (fun j => R j ∨ j = l) g := by
  obtain ⟨A, h1, h2, h3⟩ := I
  exact ⟨A, h1, h2, MC_w h3 (fun _ _ _ k => k) (fun _ _ _ k => k.elim) (fun j _ k => k.elim Or.inr (fun e => Or.inl (by rw [e]; exact hp)))⟩
theorem MI_Rw {y c : Nat} {D : UT} {R R' : Nat → Prop} {g : GT} (I : MI y D c R g) (h : ∀ l, R' l → R l) : MI y D c R' g := by
  obtain ⟨A, h1, h2, h3⟩ := I
  exact ⟨A, h1, h2, MC_w h3 (fun _ _ _ k => k) (fun _ _ _ k => k.elim) (fun j _ k => Or.inr (h j k))⟩
theorem MI_I {y c f : Nat} {D : UT} {R : Nat → Prop} {g : GT} {v : Int32} (I : MI y D c R g) (hf : f ≠ 1248) : MI y D c R (px_I g f y v) := by
  obtain ⟨A, h1, h2, h3⟩ := I
  exact ⟨A, h1, by rw [gxI_I, if_neg (fun k => hf k.1.symm)]; exact h2, MC_I h3⟩
theorem KK_I {y f : Nat} {g : GT} {v : Int32} (hf : f ≠ 1258) : KK y g (px_I g f y v) := ⟨fun _ _ _ _ => rfl, by rw [gxI_I, if_neg (fun k => hf k.1.symm)]⟩
theorem vb_in {v : Int32} {n : Nat} (h : vb v n) (hn : n ≠ 0) : vp_in v n := h.resolve_left hn
section EMT
variable {G : GE} {d mc ms : Nat} {M : MT} {pc : Nat} {ls : List (Nat × Value)} {st stk : List Value} {g : GT} {Q : RT → GT → Prop} {y c : Nat} {D : UT} {R : Nat → Prop}
theorem mf_A {o N j : Nat} {i v : Int32} (I : MI y D c R g) (hM : mt_ok M = true) (hf : mt_in M pc (.iastore) 1) (hk : gx_K g (y + o) = 50) (hN : gx_N g (y + o) = N) (hi : i = nI j) (hj : j < N) (hb : N < 2 ^ 31) (ho : ([1, 2, 3, 6, 8, 11, 14, 15, 21, 27, 30, 33, 36, 37, 41, 42, 44, 48, 49, 50, 51, 52, 53, 54, 55, 56].contains o) = false) (hl : o < 60) (hm : o < 50 ∨ 57 ≤ o) (k : ∀ g', MI y D c R g' → KK y g g' → ex_W G d mc ms M (pc + 1) ls st g' Q) : ex_W G d mc ms M pc ls (.int v :: .int i :: .ref (y + o) :: st) g Q :=
  sm_iast hM hf hk hN hi hj hb (k _ (MI_A I ho hl) (KK_A hm))
theorem mf_B {o N j B : Nat} {i v : Int32} (I : MI y D c R g) (hM : mt_ok M = true) (hf : mt_in M pc (.iastore) 1) (hk : gx_K g (y + o) = 50) (hN : gx_N g (y + o) = N) (hi : i = nI j) (hj : j < N) (hb : N < 2 ^ 31) (ho : (BMt.all (fun q => q.1 != o || q.2.2 == B)) = true) (hl : o < 48) (hs : o ≠ 1 ∧ o ≠ 2 ∧ o ≠ 3) (hv : vp_in v B) (k : ∀ g', MI y D c R g' → KK y g g' → ex_W G d mc ms M (pc + 1) ls st g' Q) : ex_W G d mc ms M pc ls (.int v :: .int i :: .ref (y + o) :: st) g Q :=
  sm_iast hM hf hk hN hi hj hb (k _ (MI_B I ho hl hs hv) (KK_A (by omega)))
theorem mf_ph {j : Nat} {i v : Int32} (I : MI y D c R g) (hM : mt_ok M = true) (hf : mt_in M pc (.iastore) 1) (hk : gx_K g (y + 2) = 50) (hN : gx_N g (y + 2) = 3) (hi : i = nI j) (hj : j < 3) (hv : v = 0 ∨ R j) (k : ∀ g', MI y D c R g' → KK y g g' → ex_W G d mc ms M (pc + 1) ls st g' Q) : ex_W G d mc ms M pc ls (.int v :: .int i :: .ref (y + 2) :: st) g Q :=
  sm_iast hM hf hk hN hi hj (by decide) (k _ (MI_ph I hv) (KK_A (by omega)))
theorem mf_putI {idx ci j : Nat} {v : Int32} (I : MI y D c R g) (hM : mt_ok M = true) (hf : mt_in M pc (.putfield idx) 3) (hp : (mt_f M).lookup idx = some (ci, j)) (hr : fx_R ci j = false) (hk : gx_K g y = ci + 1) (h1 : 100 * ci + j ≠ 1248) (h2 : 100 * ci + j ≠ 1258) (k : ∀ g', MI y D c R g' → KK y g g' → ex_W G d mc ms M (pc + 3) ls st g' Q) : ex_W G d mc ms M pc ls (.int v :: .ref y :: st) g Q :=
  ex_putI hM hf hp hk hr (k _ (MI_I I h1) (KK_I h2))
end EMT
/-- a part of a set is within its bound -/
theorem and_vp {a b : Int32} {n : Nat} (h : vp_in a n) (hn : n < 2 ^ 31) : vp_in (a &&& b) n := by
  obtain ⟨j, hj, rfl⟩ := vp_in_of h hn
  have e : (nI j &&& b).toBitVec.toNat ≤ j := by
    rw [Int32.toBitVec_and, BitVec.toNat_and]
    refine Nat.le_trans Nat.and_le_left ?_
    show (BitVec.ofNat 32 j).toNat ≤ j
    rw [BitVec.toNat_ofNat]
    exact Nat.mod_le _ _
  have e2 : (nI j &&& b) = nI ((nI j &&& b).toBitVec.toNat) := by
    apply Int32.toBitVec_inj.mp
    show _ = BitVec.ofNat 32 _
    rw [BitVec.ofNat_toNat, BitVec.setWidth_eq]
  rw [e2]
  exact vp_in_nI (by omega) hn
/-- the model lies outside the class -/
theorem KFr_MC {x : Nat} {D : UT} {C E R P : Nat → Prop} {g g1 : GT} (h : MC (x + 892) D C E R P g) (k : KFr x g g1) : MC (x + 892) (D.1, g1) C E R P g1 := by
  have hA : ∀ o j, gx_A g1 (x + 892 + o) j = gx_A g (x + 892 + o) j := fun o j => (k (x + 892 + o) (fun q => by have := q.2; omega)).2.2.2.2.1 j
  obtain ⟨h1, h2, h3, h4, h5, h6, h7⟩ := h
  refine ⟨⟨fun q hq => ?_, fun q hq => ?_⟩, fun q hq i hi => by rw [hA]; exact h2 q hq i hi, fun l hl q => by rw [hA]; exact h3 l hl (by rw [hA] at q; exact q), fun j hj q => ?_, fun i hi => by rw [hA]; exact h5 i hi, fun j hj q => ?_, KFm.refl⟩
  · have := k (x + 892 + q.1) (fun q => by have := q.2; omega)
    exact ⟨this.1.trans (h1.1 q hq).1, this.2.1.trans (h1.1 q hq).2⟩
  · have := k (x + 892 + q.1) (fun q => by have := q.2; omega)
    exact (this.2.2.2.1 _).trans (h1.2 q hq)
  · obtain ⟨κ, m, hk, hm⟩ := h4 j hj q
    exact ⟨κ, m, hk, MK_q hm (fun c _ _ i => hA c i)⟩
  · rw [hA] at q
    rcases h6 j hj q with c | ⟨p, p1, p2, p3⟩
    · exact Or.inl c
    · exact Or.inr ⟨p, p1, p2, by rw [hA]; exact p3⟩
theorem KFr_MI {x c : Nat} {D : UT} {R : Nat → Prop} {g g1 : GT} (I : MI (x + 892) D c R g) (k : KFr x g g1) : MI (x + 892) (D.1, g1) c R g1 := by
  obtain ⟨A, h1, h2, h3⟩ := I
  exact ⟨A, h1, ((k (x + 892) (fun q => by have := q.2; omega)).2.2.1 1248).trans h2, KFr_MC h3 k⟩
theorem INV_re {x : Nat} {U : UT} {g : GT} (I : INV x U g) : INV x (U.1, g) g := by
  obtain ⟨i1, i2, i3, i4, i5, i6, i7, i8, i9⟩ := I
  exact ⟨i1, i2, i3, i4, i5, i6, i7, i8, i9.1, KFr.refl⟩
theorem INV_fr {x : Nat} {U : UT} {g : GT} (I : INV x U g) : KFr x U.2 g := I.2.2.2.2.2.2.2.2.2
theorem MI_re {y c : Nat} {D : UT} {R : Nat → Prop} {g : GT} (I : MI y D c R g) : MI y (D.1, g) c R g := by
  obtain ⟨A, h1, h2, i1, i2, i3, i4, i5, i6, i7⟩ := I
  exact ⟨A, h1, h2, i1, i2, i3, i4, i5, i6, KFm.refl⟩
theorem MI_fr {y c : Nat} {D : UT} {R : Nat → Prop} {g : GT} (I : MI y D c R g) : KFm y D.2 g := by
  obtain ⟨A, h1, h2, i1, i2, i3, i4, i5, i6, i7⟩ := I
  exact i7
/-- the class lies outside the model -/
theorem KFm_INV {x : Nat} {U : UT} {g g1 : GT} (I : INV x U g) (k : KFm (x + 892) g g1) : INV x (U.1, g1) g1 := by
  have hb : ∀ o, o < 892 → ¬ RM (x + 892) (x + o) := fun o ho q => by have := q.1; omega
  have hs : ∀ (T : List (Nat × Nat × Nat) × List (Nat × Nat × Nat)) (o : Nat), T.1.all (fun q => (o + q.1).blt 892) = true → T.2.all (fun q => (o + q.1).blt 892) = true → sh T g (x + o) → sh T g1 (x + o) := fun T o b1 b2 h => by
    refine ⟨fun q hq => ?_, fun q hq => ?_⟩
    · have := k (x + (o + q.1)) (hb _ (Nat.blt_eq.mp (List.all_eq_true.mp b1 q hq)))
      rw [← Nat.add_assoc] at this
      exact ⟨this.1.trans (h.1 q hq).1, this.2.1.trans (h.1 q hq).2⟩
    · have := k (x + (o + q.1)) (hb _ (Nat.blt_eq.mp (List.all_eq_true.mp b2 q hq)))
      rw [← Nat.add_assoc] at this
      exact (this.2.2.2.1 _).trans (h.2 q hq)
  obtain ⟨i1, i2, i3, i4, i5, i6, i7, i8, i9⟩ := I
  refine ⟨hs T11b 0 (by decide +kernel) (by decide +kernel) i1, fun q hq => ?_, fun j hj => ?_, fun i hi => ?_, ?_, ?_, ?_, fun j hj => ?_, fun q hq => ?_, KFr.refl⟩
  · have b := Nat.blt_eq.mp (List.all_eq_true.mp (show O11.all (fun q => q.1.blt 892) = true by decide +kernel) q hq)
    exact ((k (x + q.1) (hb _ b)).2.2.2.2.2.2 _).trans (i2 q hq)
  · have hq : ∀ o, o < 2 → ¬ RM (x + 892) (x + 3 + 2 * j + o) := fun o ho q => by have := q.1; omega
    have := i3 j hj
    refine ⟨fun q hq2 => ?_, fun q hq2 => ?_⟩
    · have b := Nat.blt_eq.mp (List.all_eq_true.mp (show T6.1.all (fun q => q.1.blt 2) = true by decide +kernel) q hq2)
      have c := k (x + 3 + 2 * j + q.1) (hq _ b)
      exact ⟨c.1.trans (this.1 q hq2).1, c.2.1.trans (this.1 q hq2).2⟩
    · have b := Nat.blt_eq.mp (List.all_eq_true.mp (show T6.2.all (fun q => q.1.blt 2) = true by decide +kernel) q hq2)
      exact ((k (x + 3 + 2 * j + q.1) (hq _ b)).2.2.2.1 _).trans (this.2 q hq2)
  · rw [(k (x + 2) (hb 2 (by decide))).2.2.2.2.2.2 i]; exact i4 i hi
  · rw [(k (x + 1) (hb 1 (by decide))).2.2.2.1 1]; exact i5
  · rw [(k (x + 1) (hb 1 (by decide))).2.2.1 3]; exact i6
  · rw [(k (x + 1) (hb 1 (by decide))).2.2.1 4]; exact i7
  · rw [(k (x + 813) (hb 813 (by decide))).2.2.2.2.1 j]; exact i8 j hj
  · have b := Nat.blt_eq.mp (List.all_eq_true.mp (show I11.all (fun q => q.1.blt 892) = true by decide +kernel) q hq)
    exact ((k (x + q.1) (hb _ b)).2.2.1 _).trans (i9.1 q hq)
def pB (B : Nat) : Option Value → Prop := fun v => ∃ r, r < B ∧ v = some (.int (nI r))
theorem s_entryRound {G : GE} (hst : (ge_l G).stackTraces = false) {y a i m : Nat} {g : GT} (S : sh T12 g y) (ha : a < 402) (hi : i < m) (hm : m < 301) (hl : ∀ i, i < m → vp_in (gx_A g (y + 56) (600 * a + 2 * i)) 300) : ex_M G 1 0 0 my_X12_entryRound [.ref y, .int (nI a), .int (nI i)] g (SVp g (pB 300)) := by
  refine ex_M_of ok_X12_entryRound cw_X12_entryRound rfl hst (Nat.le_of_ble_eq_true rfl) ?_
  refine ex_aload_n ok_X12_entryRound (mi 0 rfl) rfl ?_
  refine ex_getRx ok_X12_entryRound (mi 1 rfl) rfl rfl (fk S 0 rfl) (fr S 55 rfl) (fk S 56 rfl) (by decide) ?_
  refine ex_sipush ok_X12_entryRound (mi 2 rfl) ?_
  refine ex_iload_n ok_X12_entryRound (mi 3 rfl) rfl ?_
  refine ex_imul ok_X12_entryRound (mi 4 rfl) ?_
  refine ex_top (w := nI (600 * a)) (nI_mulc rfl) ?_
  refine ex_iconst ok_X12_entryRound (mi 5 rfl) ?_
  refine ex_iload_n ok_X12_entryRound (mi 6 rfl) rfl ?_
  refine ex_imul ok_X12_entryRound (mi 7 rfl) ?_
  refine ex_top (w := nI (2 * i)) (nI_mulc rfl) ?_
  refine ex_iadd ok_X12_entryRound (mi 8 rfl) ?_
  refine ex_top (w := nI (600 * a + 2 * i)) (nI_add _ _) ?_
  refine sm_iald ok_X12_entryRound (mi 9 rfl) (fk S 56 rfl) (fn S 56 rfl) rfl (by omega) (by decide) ?_
  obtain ⟨r, hr, er⟩ := vp_in_of (hl i hi) (by decide)
  refine ex_top (w := nI r) er ?_
  refine ex_iret ok_X12_entryRound (mi 10 rfl) rfl ?_
  exact ⟨_, rfl, ⟨r, hr, rfl⟩, rfl⟩
theorem s_entryGroup {G : GE} (hst : (ge_l G).stackTraces = false) {y a i m : Nat} {g : GT} (S : sh T12 g y) (ha : a < 402) (hi : i < m) (hm : m < 301) : ex_M G 1 0 0 my_X12_entryGroup [.ref y, .int (nI a), .int (nI i)] g (SVp g pI) := by
  refine ex_M_of ok_X12_entryGroup cw_X12_entryGroup rfl hst (Nat.le_of_ble_eq_true rfl) ?_
  refine ex_aload_n ok_X12_entryGroup (mi 0 rfl) rfl ?_
  refine ex_getRx ok_X12_entryGroup (mi 1 rfl) rfl rfl (fk S 0 rfl) (fr S 55 rfl) (fk S 56 rfl) (by decide) ?_
  refine ex_sipush ok_X12_entryGroup (mi 2 rfl) ?_
  refine ex_iload_n ok_X12_entryGroup (mi 3 rfl) rfl ?_
  refine ex_imul ok_X12_entryGroup (mi 4 rfl) ?_
  refine ex_top (w := nI (600 * a)) (nI_mulc rfl) ?_
  refine ex_iconst ok_X12_entryGroup (mi 5 rfl) ?_
  refine ex_iload_n ok_X12_entryGroup (mi 6 rfl) rfl ?_
  refine ex_imul ok_X12_entryGroup (mi 7 rfl) ?_
  refine ex_top (w := nI (2 * i)) (nI_mulc rfl) ?_
  refine ex_iadd ok_X12_entryGroup (mi 8 rfl) ?_
  refine ex_top (w := nI (600 * a + 2 * i)) (nI_add _ _) ?_
  refine ex_iconst ok_X12_entryGroup (mi 9 rfl) ?_
  refine ex_iadd ok_X12_entryGroup (mi 10 rfl) ?_
  refine ex_top (w := nI (600 * a + 2 * i + 1)) (nI_add _ 1) ?_
  refine sm_iald ok_X12_entryGroup (mi 11 rfl) (fk S 56 rfl) (fn S 56 rfl) rfl (by omega) (by decide) ?_
  refine ex_iret ok_X12_entryGroup (mi 12 rfl) rfl ?_
  exact ⟨_, rfl, ⟨_, rfl⟩, rfl⟩
