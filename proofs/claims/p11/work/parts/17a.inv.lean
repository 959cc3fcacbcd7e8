/-! ===== what every state of the class keeps: shapes, the ring's messages, head and size, who is up ===== -/
def T11b : List (Nat × Nat × Nat) × List (Nat × Nat × Nat) := (T11.1, T11.2.filter (fun q => !(q.1 == 1 && q.2.1 == 1)))
def MSR (x a : Nat) : Prop := ∃ j, j < 402 ∧ a = x + 3 + 2 * j
def LDR (x a : Nat) : Prop := ∃ i, i < 3 ∧ a = x + (815 + 11 * i)
def KPR (x a : Nat) : Prop := ∃ i, i < 9 ∧ a = x + (849 + 2 * i)
def VTR (x a : Nat) : Prop := ∃ i, i < 12 ∧ a = x + (868 + 2 * i)
def RG (x a : Nat) : Prop := x ≤ a ∧ a < x + 892
def RN (x a : Nat) : Prop := RG x a ∧ a ≠ x + 813
/-- what lies outside the object is as it was -/
def KFr (x : Nat) (g g1 : GT) : Prop := ∀ b, ¬ RG x b → gx_K g1 b = gx_K g b ∧ gx_N g1 b = gx_N g b ∧ (∀ f, gx_I g1 f b = gx_I g f b) ∧ (∀ f, gx_R g1 f b = gx_R g f b) ∧ (∀ j, gx_A g1 b j = gx_A g b j) ∧ (∀ j, gx_L g1 b j = gx_L g b j) ∧ (∀ j, gx_O g1 b j = gx_O g b j)
theorem KFr.refl {x : Nat} {g : GT} : KFr x g g := fun _ _ => ⟨rfl, rfl, fun _ => rfl, fun _ => rfl, fun _ => rfl, fun _ => rfl, fun _ => rfl⟩
theorem KFr.trans {x : Nat} {g g1 g2 : GT} (a : KFr x g g1) (c : KFr x g1 g2) : KFr x g g2 := fun b hb => by
  obtain ⟨a1, a2, a3, a4, a5, a6, a7⟩ := a b hb
  obtain ⟨c1, c2, c3, c4, c5, c6, c7⟩ := c b hb
  exact ⟨c1.trans a1, c2.trans a2, fun f => (c3 f).trans (a3 f), fun f => (c4 f).trans (a4 f), fun f => (c5 f).trans (a5 f), fun f => (c6 f).trans (a6 f), fun f => (c7 f).trans (a7 f)⟩
theorem KFr_A {x a j : Nat} {g : GT} {v : Int32} (h : RG x a) : KFr x g (px_A g a j v) := fun b hb => have hn : b ≠ a := fun e => hb (e ▸ h); ⟨rfl, rfl, fun _ => rfl, fun _ => rfl, fun _ => if_neg (fun k => hn k.1), fun _ => rfl, fun _ => rfl⟩
theorem KFr_F {x a lo hi : Nat} {g : GT} {v : Int32} (h : RG x a) : KFr x g (px_F g a lo hi v) := fun b hb => have hn : b ≠ a := fun e => hb (e ▸ h); ⟨rfl, rfl, fun _ => rfl, fun _ => rfl, fun _ => if_neg (fun k => hn k.1), fun _ => rfl, fun _ => rfl⟩
theorem KFr_C {x s sp a dp n : Nat} {g : GT} (h : RG x a) : KFr x g (px_C g s sp a dp n) := fun b hb => have hn : b ≠ a := fun e => hb (e ▸ h); ⟨rfl, rfl, fun _ => rfl, fun _ => rfl, fun _ => if_neg (fun k => hn k.1), fun _ => rfl, fun _ => rfl⟩
theorem KFr_L {x a j : Nat} {g : GT} {v : Int64} (h : RG x a) : KFr x g (px_L g a j v) := fun b hb => have hn : b ≠ a := fun e => hb (e ▸ h); ⟨rfl, rfl, fun _ => rfl, fun _ => rfl, fun _ => rfl, fun _ => if_neg (fun k => hn k.1), fun _ => rfl⟩
theorem KFr_FL {x a lo hi : Nat} {g : GT} {v : Int64} (h : RG x a) : KFr x g (px_FL g a lo hi v) := fun b hb => have hn : b ≠ a := fun e => hb (e ▸ h); ⟨rfl, rfl, fun _ => rfl, fun _ => rfl, fun _ => rfl, fun _ => if_neg (fun k => hn k.1), fun _ => rfl⟩
theorem KFr_I {x f a : Nat} {g : GT} {v : Int32} (h : RG x a) : KFr x g (px_I g f a v) := fun b hb => have hn : b ≠ a := fun e => hb (e ▸ h); ⟨rfl, rfl, fun _ => if_neg (fun k => hn k.2), fun _ => rfl, fun _ => rfl, fun _ => rfl, fun _ => rfl⟩
theorem KFr_R {x f a v : Nat} {g : GT} (h : RG x a) : KFr x g (px_R g f a v) := fun b hb => have hn : b ≠ a := fun e => hb (e ▸ h); ⟨rfl, rfl, fun _ => rfl, fun _ => if_neg (fun k => hn k.2), fun _ => rfl, fun _ => rfl, fun _ => rfl⟩
theorem KFr_O {x a j v : Nat} {g : GT} (h : RG x a) : KFr x g (px_O g a j v) := fun b hb => have hn : b ≠ a := fun e => hb (e ▸ h); ⟨rfl, rfl, fun _ => rfl, fun _ => rfl, fun _ => rfl, fun _ => rfl, fun _ => if_neg (fun k => hn k.1)⟩
abbrev UT : Type := (Nat → Int32) × GT
def INV (x : Nat) (U : UT) (g : GT) : Prop := sh T11b g x ∧ tO O11 g x ∧ (∀ j, j < 402 → sh T6 g (x + 3 + 2 * j)) ∧ (∀ i, i < 400 → MSR x (gx_O g (x + 2) i)) ∧ MSR x (gx_R g 1 (x + 1)) ∧ vp_in (gx_I g 3 (x + 1)) 400 ∧ vp_in (gx_I g 4 (x + 1)) 401 ∧ (∀ j, j < 4 → gx_A g (x + 813) j = U.1 j) ∧ tI I11 g x ∧ KFr x U.2 g
theorem INV_q {x : Nat} {U : UT} {g g1 : GT} (I : INV x U g) (s : sq g g1) (h3 : gx_I g1 3 (x + 1) = gx_I g 3 (x + 1)) (h4 : gx_I g1 4 (x + 1) = gx_I g 4 (x + 1)) (hu : ∀ j, j < 4 → gx_A g1 (x + 813) j = gx_A g (x + 813) j) (hn : ∀ q ∈ I11, gx_I g1 q.2.1 (x + q.1) = gx_I g q.2.1 (x + q.1)) (hf : KFr x g g1) : INV x U g1 := by
  obtain ⟨i1, i2, i3, i4, i5, i6, i7, i8, i9⟩ := I
  refine ⟨shq s i1, fun q hq => oq s (i2 q hq), fun j hj => shq s (i3 j hj), fun i hi => ?_, ?_, by rw [h3]; exact i6, by rw [h4]; exact i7, fun j hj => (hu j hj).trans (i8 j hj), fun q hq => (hn q hq).trans (i9.1 q hq), i9.2.trans hf⟩
  · rw [oq s (k := gx_O g (x + 2) i) rfl]; exact i4 i hi
  · rw [rq s (k := gx_R g 1 (x + 1)) rfl]; exact i5
theorem pxA_A {g : GT} {a i j : Nat} {v : Int32} : gx_A (px_A g a i v) a j = if j = i then v else gx_A g a j := by
  by_cases e : j = i
  · rw [if_pos e]; exact if_pos ⟨rfl, e⟩
  · rw [if_neg e]; exact if_neg (fun k => e k.2)
theorem I11_f {f : Nat} (h : I11.all (fun q => !(q.2.1 == f)) = true) : ∀ q ∈ I11, q.2.1 ≠ f := fun q hq e => by
  have := List.all_eq_true.mp h q hq
  rw [e] at this
  simp at this
theorem INV_I {x : Nat} {U : UT} {g : GT} {f a : Nat} {v : Int32} (I : INV x U g) (h3 : f ≠ 3) (h4 : f ≠ 4) (hn : I11.all (fun q => !(q.2.1 == f)) = true) (hg : RG x a) : INV x U (px_I g f a v) :=
  INV_q I (sqI sq0) (if_neg (fun k => h3 k.1.symm)) (if_neg (fun k => h4 k.1.symm)) (fun _ _ => rfl) (fun q hq => if_neg (fun k => I11_f hn q hq k.1)) (KFr_I hg)
theorem INV_hd {x : Nat} {U : UT} {g : GT} {v : Int32} (I : INV x U g) (h : vp_in v 400) : INV x U (px_I g 3 (x + 1) v) := by
  obtain ⟨i1, i2, i3, i4, i5, i6, i7, i8, i9⟩ := I
  exact ⟨shq (sqI sq0) i1, i2, fun j hj => shq (sqI sq0) (i3 j hj), i4, i5, by rw [gxI_I, if_pos ⟨rfl, rfl⟩]; exact h, by rw [gxI_I, if_neg (fun k => absurd k.1 (by decide))]; exact i7, i8, fun q hq => (if_neg (fun k => I11_f (f := 3) (by decide +kernel) q hq k.1)).trans (i9.1 q hq), i9.2.trans (KFr_I ⟨by omega, by omega⟩)⟩
theorem INV_sz {x : Nat} {U : UT} {g : GT} {v : Int32} (I : INV x U g) (h : vp_in v 401) : INV x U (px_I g 4 (x + 1) v) := by
  obtain ⟨i1, i2, i3, i4, i5, i6, i7, i8, i9⟩ := I
  exact ⟨shq (sqI sq0) i1, i2, fun j hj => shq (sqI sq0) (i3 j hj), i4, i5, by rw [gxI_I, if_neg (fun k => absurd k.1 (by decide))]; exact i6, by rw [gxI_I, if_pos ⟨rfl, rfl⟩]; exact h, i8, fun q hq => (if_neg (fun k => I11_f (f := 4) (by decide +kernel) q hq k.1)).trans (i9.1 q hq), i9.2.trans (KFr_I ⟨by omega, by omega⟩)⟩
theorem INV_A {x : Nat} {U : UT} {g : GT} {a j : Nat} {v : Int32} (I : INV x U g) (h : RN x a) : INV x U (px_A g a j v) :=
  INV_q I (sqA sq0) rfl rfl (fun i _ => if_neg (fun k => h.2 k.1.symm)) (fun _ _ => rfl) (KFr_A h.1)
theorem INV_F {x : Nat} {U : UT} {g : GT} {a lo hi : Nat} {v : Int32} (I : INV x U g) (h : RN x a) : INV x U (px_F g a lo hi v) :=
  INV_q I (sqF sq0) rfl rfl (fun i _ => if_neg (fun k => h.2 k.1.symm)) (fun _ _ => rfl) (KFr_F h.1)
theorem INV_L {x : Nat} {U : UT} {g : GT} {a j : Nat} {v : Int64} (I : INV x U g) (h : RG x a) : INV x U (px_L g a j v) :=
  INV_q I (sqL sq0) rfl rfl (fun _ _ => rfl) (fun _ _ => rfl) (KFr_L h)
theorem INV_FL {x : Nat} {U : UT} {g : GT} {a lo hi : Nat} {v : Int64} (I : INV x U g) (h : RG x a) : INV x U (px_FL g a lo hi v) :=
  INV_q I (sqFL sq0) rfl rfl (fun _ _ => rfl) (fun _ _ => rfl) (KFr_FL h)
theorem INV_C {x : Nat} {U : UT} {g : GT} {s sp d dp n : Nat} (I : INV x U g) (h : RN x d) : INV x U (px_C g s sp d dp n) :=
  INV_q I ⟨rfl, rfl, rfl, rfl, rfl⟩ rfl rfl (fun i _ => if_neg (fun k => h.2 k.1.symm)) (fun _ _ => rfl) (KFr_C h.1)
theorem INV_Z {x n : Nat} {U : UT} {g : GT} (I : INV x U g) : INV x U (px_Z g n) := I
theorem INV_U {x i : Nat} {U : UT} {g : GT} {v : Int32} (I : INV x U g) : INV x (fun j => if j = i then v else U.1 j, U.2) (px_A g (x + 813) i v) := by
  obtain ⟨i1, i2, i3, i4, i5, i6, i7, i8, i9⟩ := I
  refine ⟨shq (sqA sq0) i1, i2, fun j hj => shq (sqA sq0) (i3 j hj), i4, i5, i6, i7, fun j hj => ?_, i9.1, i9.2.trans (KFr_A ⟨by omega, by omega⟩)⟩
  rw [pxA_A]
  by_cases e : j = i
  · rw [if_pos e]; exact (if_pos e).symm
  · rw [if_neg e, i8 j hj]; exact (if_neg e).symm
theorem INV_O {x i v : Nat} {U : UT} {g : GT} (I : INV x U g) (h : MSR x v) : INV x U (px_O g (x + 2) i v) := by
  obtain ⟨i1, i2, i3, i4, i5, i6, i7, i8, i9⟩ := I
  refine ⟨i1, fun q hq => ?_, i3, fun j hj => ?_, i5, i6, i7, i8, i9.1, i9.2.trans (KFr_O ⟨by omega, by omega⟩)⟩
  · have b := of_decide_eq_true (List.all_eq_true.mp (show O11.all (fun q => decide (q.1 ≠ 2)) = true by decide +kernel) q hq)
    show (if x + q.1 = x + 2 ∧ q.2.1 = i then v else gx_O g (x + q.1) q.2.1) = _
    rw [if_neg (fun k => b (by omega))]
    exact i2 q hq
  · show MSR x (if x + 2 = x + 2 ∧ j = i then v else gx_O g (x + 2) j)
    by_cases e : j = i
    · rw [if_pos ⟨rfl, e⟩]; exact h
    · rw [if_neg (fun k => e k.2)]; exact i4 j hj
theorem INV_tk {x v : Nat} {U : UT} {g : GT} (I : INV x U g) (h : MSR x v) : INV x U (px_R g 1 (x + 1) v) := by
  obtain ⟨i1, i2, i3, i4, i5, i6, i7, i8, i9⟩ := I
  refine ⟨⟨i1.1, fun q hq => ?_⟩, i2, fun j hj => ⟨(i3 j hj).1, fun q hq => ?_⟩, i4, ?_, i6, i7, i8, i9.1, i9.2.trans (KFr_R ⟨by omega, by omega⟩)⟩
  · have b := of_decide_eq_true (List.all_eq_true.mp (show T11b.2.all (fun q => decide (¬ (q.1 = 1 ∧ q.2.1 = 1))) = true by decide +kernel) q hq)
    rw [gxR_R, if_neg (fun k => b ⟨by omega, k.1⟩)]
    exact i1.2 q hq
  · have b := of_decide_eq_true (List.all_eq_true.mp (show T6.2.all (fun q => decide (q.2.1 ≠ 1)) = true by decide +kernel) q hq)
    rw [gxR_R, if_neg (fun k => b k.1)]
    exact (i3 j hj).2 q hq
  · rw [gxR_R, if_pos ⟨rfl, rfl⟩]; exact h
theorem INV_6 {x a : Nat} {U : UT} {g : GT} (I : INV x U g) (h : MSR x a) : sh T6 g a := by
  obtain ⟨j, hj, rfl⟩ := h
  exact I.2.2.1 j hj
def T5x : List (Nat × Nat × Nat) × List (Nat × Nat × Nat) := T5
theorem INV_5 {x a : Nat} {U : UT} {g : GT} (I : INV x U g) (h : LDR x a) : sh T5 g a ∧ gx_R g 501 a = x + 1 ∧ gx_R g 502 a = x + 807 ∧ gx_R g 401 (a + 3) = x + 1 ∧ gx_R g 801 (a + 5) = x + 1 := by
  obtain ⟨i, hi, rfl⟩ := h
  rcases (by omega : i = 0 ∨ i = 1 ∨ i = 2) with rfl | rfl | rfl
  · exact ⟨sh_sub 815 I.1 (by decide +kernel) (by decide +kernel), I.1.2 (815, 501, 1) (by decide +kernel), I.1.2 (815, 502, 807) (by decide +kernel), I.1.2 (818, 401, 1) (by decide +kernel), I.1.2 (820, 801, 1) (by decide +kernel)⟩
  · exact ⟨sh_sub 826 I.1 (by decide +kernel) (by decide +kernel), I.1.2 (826, 501, 1) (by decide +kernel), I.1.2 (826, 502, 807) (by decide +kernel), I.1.2 (829, 401, 1) (by decide +kernel), I.1.2 (831, 801, 1) (by decide +kernel)⟩
  · exact ⟨sh_sub 837 I.1 (by decide +kernel) (by decide +kernel), I.1.2 (837, 501, 1) (by decide +kernel), I.1.2 (837, 502, 807) (by decide +kernel), I.1.2 (840, 401, 1) (by decide +kernel), I.1.2 (842, 801, 1) (by decide +kernel)⟩
theorem st_all {g : GT} {x : Nat} {T T' : List (Nat × Nat × Nat) × List (Nat × Nat × Nat)} {n : Nat} (os : Nat → Nat) (h : sh T g x) (b : (List.range n).all (fun i => T'.1.all (fun q => T.1.contains (os i + q.1, q.2)) && T'.2.all (fun q => T.2.contains (os i + q.1, q.2.1, os i + q.2.2))) = true) (i : Nat) (hi : i < n) : sh T' g (x + os i) := by
  have k := List.all_eq_true.mp b i (List.mem_range.mpr hi)
  rw [Bool.and_eq_true] at k
  refine sh_sub (os i) h (fun q hq => ?_) (fun q hq => ?_)
  · exact List.contains_iff_mem.mp (List.all_eq_true.mp k.1 q hq)
  · exact List.contains_iff_mem.mp (List.all_eq_true.mp k.2 q hq)
theorem rf_all {g : GT} {x f t : Nat} {T : List (Nat × Nat × Nat) × List (Nat × Nat × Nat)} {n : Nat} (os : Nat → Nat) (h : sh T g x) (b : (List.range n).all (fun i => T.2.contains (os i, f, t)) = true) (i : Nat) (hi : i < n) : gx_R g f (x + os i) = x + t :=
  h.2 (os i, f, t) (List.contains_iff_mem.mp (List.all_eq_true.mp b i (List.mem_range.mpr hi)))
theorem INV_3 {x a : Nat} {U : UT} {g : GT} (I : INV x U g) (h : KPR x a) : sh T3 g a ∧ gx_R g 301 a = x + 1 ∧ gx_R g 302 a = x + 807 := by
  obtain ⟨i, hi, rfl⟩ := h
  exact ⟨st_all (fun i => 849 + 2 * i) I.1 (by decide +kernel) i hi, rf_all (fun i => 849 + 2 * i) I.1 (by decide +kernel) i hi, rf_all (fun i => 849 + 2 * i) I.1 (by decide +kernel) i hi⟩
theorem INV_10 {x a : Nat} {U : UT} {g : GT} (I : INV x U g) (h : VTR x a) : sh T10 g a ∧ gx_R g 1001 a = x + 1 ∧ gx_R g 1002 a = x + 808 := by
  obtain ⟨i, hi, rfl⟩ := h
  exact ⟨st_all (fun i => 868 + 2 * i) I.1 (by decide +kernel) i hi, rf_all (fun i => 868 + 2 * i) I.1 (by decide +kernel) i hi, rf_all (fun i => 868 + 2 * i) I.1 (by decide +kernel) i hi⟩
/-! rules where nothing is known of numbers -/
section ESF
variable {G : GE} {d mc ms : Nat} {M : MT} {pc : Nat} {ls : List (Nat × Value)} {st stk : List Value} {g : GT} {Q : RT → GT → Prop} {x : Nat} {U : UT}
theorem sf_getI {idx ci j a : Nat} (hM : mt_ok M = true) (hf : mt_in M pc (.getfield idx) 3) (hp : (mt_f M).lookup idx = some (ci, j)) (hr : fx_R ci j = false) (hk : gx_K g a = ci + 1) (k : ∀ v, ex_W G d mc ms M (pc + 3) ls (.int v :: st) g Q) : ex_W G d mc ms M pc ls (.ref a :: st) g Q :=
  ex_getI hM hf hp hr hk (k _)
theorem sf_putI {idx ci j a : Nat} {v : Int32} (I : INV x U g) (hM : mt_ok M = true) (hf : mt_in M pc (.putfield idx) 3) (hp : (mt_f M).lookup idx = some (ci, j)) (hr : fx_R ci j = false) (h3 : 100 * ci + j ≠ 3) (h4 : 100 * ci + j ≠ 4) (hn : I11.all (fun q => !(q.2.1 == 100 * ci + j)) = true) (hk : gx_K g a = ci + 1) (hg : RG x a) (k : ∀ g, INV x U g → ex_W G d mc ms M (pc + 3) ls st g Q) : ex_W G d mc ms M pc ls (.int v :: .ref a :: st) g Q :=
  ex_putI hM hf hp hk hr (k _ (INV_I I h3 h4 hn hg))
theorem sf_iald {a N : Nat} {i : Int32} (hM : mt_ok M = true) (hf : mt_in M pc (.iaload) 1) (hk : gx_K g a = 50) (hN : gx_N g a = N) (hin : vp_in i N) (k : ∀ v, ex_W G d mc ms M (pc + 1) ls (.int v :: st) g Q) : ex_W G d mc ms M pc ls (.int i :: .ref a :: st) g Q :=
  ex_iald hM hf (Or.inl hk) (by rw [hN]; exact hin) (k _)
theorem sf_lald {a N : Nat} {i : Int32} (hM : mt_ok M = true) (hf : mt_in M pc (.laload) 1) (hk : gx_K g a = 51) (hN : gx_N g a = N) (hin : vp_in i N) (k : ∀ v, ex_W G d mc ms M (pc + 1) ls (.long v :: st) g Q) : ex_W G d mc ms M pc ls (.int i :: .ref a :: st) g Q :=
  ex_lald hM hf hk (by rw [hN]; exact hin) (k _)
theorem sf_iast {a N : Nat} {i v : Int32} (I : INV x U g) (hM : mt_ok M = true) (hf : mt_in M pc (.iastore) 1) (hk : gx_K g a = 50) (hN : gx_N g a = N) (hin : vp_in i N) (ha : RN x a) (k : ∀ g, INV x U g → ex_W G d mc ms M (pc + 1) ls st g Q) : ex_W G d mc ms M pc ls (.int v :: .int i :: .ref a :: st) g Q :=
  ex_iast hM hf hk (by rw [hN]; exact hin) (k _ (INV_A I ha))
theorem sf_last {a N : Nat} {i : Int32} {v : Int64} (I : INV x U g) (hM : mt_ok M = true) (hf : mt_in M pc (.lastore) 1) (hk : gx_K g a = 51) (hN : gx_N g a = N) (hin : vp_in i N) (hg : RG x a) (k : ∀ g, INV x U g → ex_W G d mc ms M (pc + 1) ls st g Q) : ex_W G d mc ms M pc ls (.long v :: .int i :: .ref a :: st) g Q :=
  ex_last hM hf hk (by rw [hN]; exact hin) (k _ (INV_L I hg))
/-- an array of the object's own nodes -/
theorem sf_node {a n N kx : Nat} {i : Int32} {R : Nat → Nat → Prop} (hM : mt_ok M = true) (hf : mt_in M pc (.aaload) 1) (hn : n < 4) (hk : gx_K g a = 53 + n) (hN : gx_N g a = N) (hb : N < 2 ^ 31) (hin : vp_in i N) (hr : ∀ j, j < N → R x (gx_O g a j)) (hx : ∀ q, R x q → gx_K g q = kx) (hd : 0 < kx ∧ kx < 60) (k : ∀ q, R x q → ex_W G d mc ms M (pc + 1) ls (.ref q :: st) g Q) : ex_W G d mc ms M pc ls (.int i :: .ref a :: st) g Q := by
  obtain ⟨j, hj, rfl⟩ := vp_in_of hin hb
  have r := hr j hj
  refine ex_aaldx hM hf hn hk hN hin rfl (kx := kx) ?_ hd ?_
  · rw [nI_clamp (by omega)]; exact hx _ r
  · rw [nI_clamp (by omega)]; exact k _ r
/-- the ends of the rest -/
def SV (x : Nat) (U : UT) (P : Option Value → Prop) : RT → GT → Prop := fun r g => ∃ v, r = .inl v ∧ P v ∧ INV x U g
def pI : Option Value → Prop := fun v => ∃ i, v = some (.int i)
def pZ : Option Value → Prop := fun v => ∃ i, v = some (.int i) ∧ (i = 0 ∨ i = 1)
def pN : Option Value → Prop := fun v => v = none
def pM (x : Nat) : Option Value → Prop := fun v => ∃ a, v = some (.ref a) ∧ MSR x a
theorem sf_V {idx n t d1 mc1 ms1 b : Nat} {y : MethodName} {As : List Value} {P : Option Value → Prop} (hM : mt_ok M = true) (hf : mt_in M pc (.invokevirtual idx) 3) (hp : (mt_m M).lookup idx = some (y, n, t, d1, mc1, ms1)) (hcall : ex_M G d1 mc1 ms1 y (.ref b :: As) g (SV x U P)) (hs : stk = As.reverse ++ .ref b :: st) (hk : gx_K g b = t - 10 + 1) (hh : mt_h M = []) (hlen : As.length = n) (ht : 10 ≤ t) (hd : d1 < d)
    (hcat : (st.map fun v => v.category).sum ≤ 8) (hm : mc1 ≤ mc ∧ ms1 ≤ ms) (k : ∀ v g, P v → INV x U g → ex_W G d (mc - mc1) (ms - ms1) M (pc + 3) ls (v.toList ++ st) g Q) : ex_W G d mc ms M pc ls stk g Q := by
  rw [hs]
  refine ex_callV hM hf hp ht hh hd hlen hk hcat hm hcall (fun v' g' h => ?_) (fun E g' h => ?_)
  · obtain ⟨v, h1, h2, h3⟩ := h
    cases h1
    exact k _ _ h2 h3
  · obtain ⟨v, h1, -⟩ := h
    cases h1
theorem sf_S {idx n d1 mc1 ms1 : Nat} {y : MethodName} {As : List Value} {P : Option Value → Prop} (hM : mt_ok M = true) (hf : mt_in M pc (.invokestatic idx) 3) (hp : (mt_m M).lookup idx = some (y, n, 1, d1, mc1, ms1)) (hcall : ex_M G d1 mc1 ms1 y As g (SV x U P)) (hs : stk = As.reverse ++ st) (hh : mt_h M = []) (hlen : As.length = n) (hd : d1 < d)
    (hcat : (st.map fun v => v.category).sum ≤ 8) (hm : mc1 ≤ mc ∧ ms1 ≤ ms) (k : ∀ v g, P v → INV x U g → ex_W G d (mc - mc1) (ms - ms1) M (pc + 3) ls (v.toList ++ st) g Q) : ex_W G d mc ms M pc ls stk g Q := by
  rw [hs]
  refine ex_callS hM hf hp hh hd hlen hcat hm hcall (fun v' g' h => ?_) (fun E g' h => ?_)
  · obtain ⟨v, h1, h2, h3⟩ := h
    cases h1
    exact k _ _ h2 h3
  · obtain ⟨v, h1, -⟩ := h
    cases h1
theorem sf_SN {idx n d1 mc1 ms1 : Nat} {y : MethodName} {As : List Value} {P : Option Value → Prop} (hM : mt_ok M = true) (hf : mt_in M pc (.invokestatic idx) 3) (hp : (mt_m M).lookup idx = some (y, n, 4, d1, mc1, ms1)) (hcall : ex_M G d1 mc1 ms1 y As g (SV x U P)) (hs : stk = As.reverse ++ st) (hnest : Cond.methodLinkNest (mt_y M).cls idx y "RoundKeepers" ∈ cx_nest) (hh : mt_h M = []) (hlen : As.length = n) (hd : d1 < d)
    (hcat : (st.map fun v => v.category).sum ≤ 8) (hm : mc1 ≤ mc ∧ ms1 ≤ ms) (k : ∀ v g, P v → INV x U g → ex_W G d (mc - mc1) (ms - ms1) M (pc + 3) ls (v.toList ++ st) g Q) : ex_W G d mc ms M pc ls stk g Q := by
  rw [hs]
  refine ex_callSN hM hf hp hh hd hlen hnest hcat hm hcall (fun E g' h => ?_) (fun v' g' h => ?_)
  · obtain ⟨v, h1, -⟩ := h
    cases h1
  · obtain ⟨v, h1, h2, h3⟩ := h
    cases h1
    exact k _ _ h2 h3
def SVp (g : GT) (P : Option Value → Prop) : RT → GT → Prop := fun r g' => ∃ v, r = .inl v ∧ P v ∧ g' = g
theorem sf_Vp {idx n t d1 mc1 ms1 b : Nat} {y : MethodName} {As : List Value} {P : Option Value → Prop} (hM : mt_ok M = true) (hf : mt_in M pc (.invokevirtual idx) 3) (hp : (mt_m M).lookup idx = some (y, n, t, d1, mc1, ms1)) (hcall : ex_M G d1 mc1 ms1 y (.ref b :: As) g (SVp g P)) (hs : stk = As.reverse ++ .ref b :: st) (hk : gx_K g b = t - 10 + 1) (hh : mt_h M = []) (hlen : As.length = n) (ht : 10 ≤ t) (hd : d1 < d)
    (hcat : (st.map fun v => v.category).sum ≤ 8) (hm : mc1 ≤ mc ∧ ms1 ≤ ms) (k : ∀ v, P v → ex_W G d (mc - mc1) (ms - ms1) M (pc + 3) ls (v.toList ++ st) g Q) : ex_W G d mc ms M pc ls stk g Q := by
  rw [hs]
  refine ex_callV hM hf hp ht hh hd hlen hk hcat hm hcall (fun v' g' h => ?_) (fun E g' h => ?_)
  · obtain ⟨v, h1, h2, rfl⟩ := h
    cases h1
    exact k _ h2
  · obtain ⟨v, h1, -⟩ := h
    cases h1
theorem sf_Sp {idx n d1 mc1 ms1 : Nat} {y : MethodName} {As : List Value} {P : Option Value → Prop} (hM : mt_ok M = true) (hf : mt_in M pc (.invokestatic idx) 3) (hp : (mt_m M).lookup idx = some (y, n, 1, d1, mc1, ms1)) (hcall : ex_M G d1 mc1 ms1 y As g (SVp g P)) (hs : stk = As.reverse ++ st) (hh : mt_h M = []) (hlen : As.length = n) (hd : d1 < d)
    (hcat : (st.map fun v => v.category).sum ≤ 8) (hm : mc1 ≤ mc ∧ ms1 ≤ ms) (k : ∀ v, P v → ex_W G d (mc - mc1) (ms - ms1) M (pc + 3) ls (v.toList ++ st) g Q) : ex_W G d mc ms M pc ls stk g Q := by
  rw [hs]
  refine ex_callS hM hf hp hh hd hlen hcat hm hcall (fun v' g' h => ?_) (fun E g' h => ?_)
  · obtain ⟨v, h1, h2, rfl⟩ := h
    cases h1
    exact k _ h2
  · obtain ⟨v, h1, -⟩ := h
    cases h1
theorem sf_SNp {idx n d1 mc1 ms1 : Nat} {y : MethodName} {As : List Value} {P : Option Value → Prop} (hM : mt_ok M = true) (hf : mt_in M pc (.invokestatic idx) 3) (hp : (mt_m M).lookup idx = some (y, n, 4, d1, mc1, ms1)) (hcall : ex_M G d1 mc1 ms1 y As g (SVp g P)) (hs : stk = As.reverse ++ st) (hnest : Cond.methodLinkNest (mt_y M).cls idx y "RoundKeepers" ∈ cx_nest) (hh : mt_h M = []) (hlen : As.length = n) (hd : d1 < d)
    (hcat : (st.map fun v => v.category).sum ≤ 8) (hm : mc1 ≤ mc ∧ ms1 ≤ ms) (k : ∀ v, P v → ex_W G d (mc - mc1) (ms - ms1) M (pc + 3) ls (v.toList ++ st) g Q) : ex_W G d mc ms M pc ls stk g Q := by
  rw [hs]
  refine ex_callSN hM hf hp hh hd hlen hnest hcat hm hcall (fun E g' h => ?_) (fun v' g' h => ?_)
  · obtain ⟨v, h1, -⟩ := h
    cases h1
  · obtain ⟨v, h1, h2, rfl⟩ := h
    cases h1
    exact k _ h2
theorem sf_fill {idx n d1 mc1 ms1 a N : Nat} {v : Int32} (I : INV x U g) (hM : mt_ok M = true) (hf : mt_in M pc (.invokestatic idx) 3) (hp : (mt_m M).lookup idx = some (my_J7_fill_53178, n, 1, d1, mc1, ms1)) (hst : (ge_l G).stackTraces = false) (hk : gx_K g a = 50) (hN : gx_N g a = N) (hb : N < 2 ^ 31) (hs : stk = [.ref a, .int v].reverse ++ st) (hh : mt_h M = []) (hlen : [Value.ref a, .int v].length = n) (hd : d1 < d)
    (hcat : (st.map fun v => v.category).sum ≤ 8) (hm : mc1 ≤ mc ∧ ms1 ≤ ms) (ha : RN x a) (k : ∀ g, INV x U g → ex_W G d (mc - mc1) (ms - ms1) M (pc + 3) ls st g Q) : ex_W G d mc ms M pc ls stk g Q :=
  ex_callSr hM hf hp (m_J7_fill_53178 hst hk hN hb) hs hh hlen hd hcat hm (k _ (INV_F I ha))
end ESF
/-! switches on what is not known: every road -/
theorem lk_mem {ps : List (Int × Int)} {df k : Int} : Op.lookupswitch.offset ps df k ∈ df :: ps.map (fun q => q.2) := by
  induction ps with
  | nil => exact List.mem_cons_self
  | cons a t ih =>
    obtain ⟨a, o⟩ := a
    rw [Op.lookupswitch.offset_cons]
    by_cases e : a = k
    · rw [if_pos e]; exact List.mem_cons_of_mem _ List.mem_cons_self
    · rw [if_neg e]
      rcases List.mem_cons.mp ih with h | h
      · rw [h]; exact List.mem_cons_self
      · exact List.mem_cons_of_mem _ (List.mem_cons_of_mem _ h)
section ESW
variable {G : GE} {d mc ms : Nat} {M : MT} {pc : Nat} {ls : List (Nat × Value)} {st stk : List Value} {g : GT} {Q : RT → GT → Prop} {x : Nat} {U : UT}
theorem sf_table {dflt lo hi : Int} {offs : Array Int} {len : Nat} {v : Int32} (L : List Nat) (hM : mt_ok M = true) (hf : mt_in M pc (.tableswitch dflt lo hi offs) len) (hL : (dflt :: offs.toList).all (fun o => L.any (fun t => decide ((pc : Int) + o = (t : Int)))) = true) (hsz : (offs.size : Int) = hi - lo + 1)
    (k : ∀ t, t ∈ L → ex_W G d mc ms M t ls st g Q) : ex_W G d mc ms M pc ls (.int v :: st) g Q := by
  have hh : ∀ o, o ∈ dflt :: offs.toList → ∃ t ∈ L, (pc : Int) + o = (t : Int) := fun o ho => by
    obtain ⟨t, ht, e⟩ := List.any_eq_true.mp (List.all_eq_true.mp hL o ho)
    exact ⟨t, ht, of_decide_eq_true e⟩
  have h0 : ∀ o, o ∈ dflt :: offs.toList → 0 ≤ (pc : Int) + o := fun o ho => by
    obtain ⟨t, -, e⟩ := hh o ho
    omega
  refine ex_table hM hf (fun off t h1 h2 h3 h4 => ?_) (fun o ho => h0 o (List.mem_cons_of_mem _ ho)) hsz (fun t h1 h2 => ?_) (h0 dflt List.mem_cons_self)
  · obtain ⟨t', ht, e⟩ := hh off (List.mem_cons_of_mem _ (Array.mem_toList_iff.mpr (Array.mem_of_getElem? h3)))
    obtain rfl : t = t' := by omega
    exact k t ht
  · obtain ⟨t', ht, e⟩ := hh dflt List.mem_cons_self
    obtain rfl : t = t' := by omega
    exact k t ht
theorem sf_lookup {dflt : Int} {ps : Array (Int × Int)} {len : Nat} {v : Int32} (L : List Nat) (hM : mt_ok M = true) (hf : mt_in M pc (.lookupswitch dflt ps) len) (hp : (ps.toList.zip (ps.toList.drop 1)).all (fun (a, next) => a.1 < next.1) = true) (hL : (dflt :: ps.toList.map (fun q => q.2)).all (fun o => L.any (fun t => decide ((pc : Int) + o = (t : Int)))) = true)
    (k : ∀ t, t ∈ L → ex_W G d mc ms M t ls st g Q) : ex_W G d mc ms M pc ls (.int v :: st) g Q := by
  obtain ⟨t, ht, e⟩ := List.any_eq_true.mp (List.all_eq_true.mp hL _ (lk_mem (ps := ps.toList) (df := dflt) (k := v.toInt)))
  exact ex_lookup (tgt := t) hM hf hp (of_decide_eq_true e) (k t ht)
theorem sf_copy {idx n9 d1 mc1 ms1 a0 a N0 N : Nat} {sp dp n : Int32} (I : INV x U g) (hM : mt_ok M = true) (hf : mt_in M pc (.invokestatic idx) 3) (hp : (mt_m M).lookup idx = some (arraycopyName, n9, 7, d1, mc1, ms1)) (hk0 : gx_K g a0 = 50) (hk : gx_K g a = 50) (hN0 : N0 ≤ gx_N g a0) (hN : N ≤ gx_N g a) (h1 : ¬ sp < 0) (h2 : ¬ dp < 0) (h3 : ¬ n < 0) (h4 : sp.toNatClampNeg + n.toNatClampNeg ≤ N0) (h5 : dp.toNatClampNeg + n.toNatClampNeg ≤ N) (hcat : (st.map fun v => v.category).sum ≤ 8) (ha : RN x a)
    (k : ∀ g, INV x U g → ex_W G d mc ms M (pc + 3) ls st g Q) : ex_W G d mc ms M pc ls (.int n :: .int dp :: .ref a :: .int sp :: .ref a0 :: st) g Q :=
  ex_copy hM hf hp hk0 hk h1 h2 h3 (by omega) (by omega) hcat (k _ (INV_C I ha))
theorem sf_max {idx n9 d1 mc1 ms1 : Nat} {v w : Int32} (hM : mt_ok M = true) (hf : mt_in M pc (.invokestatic idx) 3) (hp : (mt_m M).lookup idx = some (Lib.Math.max.name, n9, 8, d1, mc1, ms1)) (hcat : (st.map fun v => v.category).sum ≤ 8) (k : ∀ u, ex_W G d mc ms M (pc + 3) ls (.int u :: st) g Q) : ex_W G d mc ms M pc ls (.int w :: .int v :: st) g Q :=
  ex_max hM hf hp hcat (k _)
end ESW
/-! the parts of a leader; rows of rounds and of votes -/
def KGR (x a : Nat) : Prop := ∃ l, LDR x l ∧ a = l + 3
def SLR (x a : Nat) : Prop := ∃ l, LDR x l ∧ a = l + 5
def CLR (x a : Nat) : Prop := ∃ l, LDR x l ∧ a = l + 10
theorem LDR_kg {x a : Nat} (h : LDR x a) : KGR x (a + 3) := ⟨a, h, rfl⟩
theorem LDR_sl {x a : Nat} (h : LDR x a) : SLR x (a + 5) := ⟨a, h, rfl⟩
theorem LDR_cl {x a : Nat} (h : LDR x a) : CLR x (a + 10) := ⟨a, h, rfl⟩
theorem INV_4 {x a : Nat} {U : UT} {g : GT} (I : INV x U g) (h : KGR x a) : sh T4 g a ∧ gx_R g 401 a = x + 1 := by
  obtain ⟨l, hl, rfl⟩ := h
  exact ⟨sh_54 (INV_5 I hl).1, (INV_5 I hl).2.2.2.1⟩
theorem INV_8 {x a : Nat} {U : UT} {g : GT} (I : INV x U g) (h : SLR x a) : sh T8 g a ∧ gx_R g 801 a = x + 1 := by
  obtain ⟨l, hl, rfl⟩ := h
  exact ⟨sh_58 (INV_5 I hl).1, (INV_5 I hl).2.2.2.2⟩
theorem INV_1 {x a : Nat} {U : UT} {g : GT} (I : INV x U g) (h : CLR x a) : sh T1 g a := by
  obtain ⟨l, hl, rfl⟩ := h
  exact sh_51 (INV_5 I hl).1
def RDR (x s : Nat) : Prop := (∃ m, MSR x m ∧ s = m + 1) ∨ (∃ l, LDR x l ∧ (s = l + 1 ∨ s = l + 4)) ∨ ∃ k, KPR x k ∧ s = k + 1
def W16 (x s : Nat) : Prop := (∃ m, MSR x m ∧ s = m + 1) ∨ ∃ v, VTR x v ∧ s = v + 1
theorem MSR_rd {x m : Nat} (h : MSR x m) : RDR x (m + 1) := Or.inl ⟨m, h, rfl⟩
theorem LDR_rd1 {x l : Nat} (h : LDR x l) : RDR x (l + 1) := Or.inr (Or.inl ⟨l, h, Or.inl rfl⟩)
theorem LDR_rd4 {x l : Nat} (h : LDR x l) : RDR x (l + 4) := Or.inr (Or.inl ⟨l, h, Or.inr rfl⟩)
theorem KGR_rd {x a : Nat} (h : KGR x a) : RDR x (a + 1) := by
  obtain ⟨l, hl, rfl⟩ := h
  exact LDR_rd4 hl
theorem KPR_rd {x k : Nat} (h : KPR x k) : RDR x (k + 1) := Or.inr (Or.inr ⟨k, h, rfl⟩)
theorem MSR_w16 {x m : Nat} (h : MSR x m) : W16 x (m + 1) := Or.inl ⟨m, h, rfl⟩
theorem VTR_w16 {x v : Nat} (h : VTR x v) : W16 x (v + 1) := Or.inr ⟨v, h, rfl⟩
theorem INV_rd {x s : Nat} {U : UT} {g : GT} (I : INV x U g) (h : RDR x s) : gx_K g s = 50 ∧ 10 ≤ gx_N g s := by
  rcases h with ⟨m, hm, rfl⟩ | ⟨l, hl, rfl | rfl⟩ | ⟨k, hk, rfl⟩
  · exact ⟨fk (INV_6 I hm) 1 rfl, by rw [fn (INV_6 I hm) 1 rfl]; decide⟩
  · exact ⟨fk (INV_5 I hl).1 1 rfl, by rw [fn (INV_5 I hl).1 1 rfl]; decide⟩
  · exact ⟨fk (INV_5 I hl).1 4 rfl, by rw [fn (INV_5 I hl).1 4 rfl]; decide⟩
  · exact ⟨fk (INV_3 I hk).1 1 rfl, by rw [fn (INV_3 I hk).1 1 rfl]; decide⟩
theorem INV_rN {x s : Nat} {U : UT} {g : GT} (I : INV x U g) (h : RDR x s) : gx_N g s ≤ 16 := by
  rcases h with ⟨m, hm, rfl⟩ | ⟨l, hl, rfl | rfl⟩ | ⟨k, hk, rfl⟩
  · rw [fn (INV_6 I hm) 1 rfl]; decide
  · rw [fn (INV_5 I hl).1 1 rfl]; decide
  · rw [fn (INV_5 I hl).1 4 rfl]; decide
  · rw [fn (INV_3 I hk).1 1 rfl]; decide
theorem INV_w16 {x s : Nat} {U : UT} {g : GT} (I : INV x U g) (h : W16 x s) : gx_K g s = 50 ∧ gx_N g s = 16 := by
  rcases h with ⟨m, hm, rfl⟩ | ⟨v, hv, rfl⟩
  · exact ⟨fk (INV_6 I hm) 1 rfl, fn (INV_6 I hm) 1 rfl⟩
  · exact ⟨fk (INV_10 I hv).1 1 rfl, fn (INV_10 I hv).1 1 rfl⟩
theorem MSR_ne {x m : Nat} (h : MSR x m) (o : Nat) (ho : o < 2) : RN x (m + o) := by
  obtain ⟨j, hj, rfl⟩ := h; exact ⟨⟨by omega, by omega⟩, by omega⟩
theorem LDR_ne {x m : Nat} (h : LDR x m) (o : Nat) (ho : o < 11) : RN x (m + o) := by
  obtain ⟨j, hj, rfl⟩ := h; exact ⟨⟨by omega, by omega⟩, by omega⟩
theorem KPR_ne {x m : Nat} (h : KPR x m) (o : Nat) (ho : o < 2) : RN x (m + o) := by
  obtain ⟨j, hj, rfl⟩ := h; exact ⟨⟨by omega, by omega⟩, by omega⟩
theorem VTR_ne {x m : Nat} (h : VTR x m) (o : Nat) (ho : o < 2) : RN x (m + o) := by
  obtain ⟨j, hj, rfl⟩ := h; exact ⟨⟨by omega, by omega⟩, by omega⟩
theorem SLR_ne {x m : Nat} (h : SLR x m) (o : Nat) (ho : o < 5) : RN x (m + o) := by
  obtain ⟨l, ⟨j, hj, rfl⟩, rfl⟩ := h; exact ⟨⟨by omega, by omega⟩, by omega⟩
theorem KGR_ne {x m : Nat} (h : KGR x m) (o : Nat) (ho : o < 2) : RN x (m + o) := by
  obtain ⟨l, ⟨j, hj, rfl⟩, rfl⟩ := h; exact ⟨⟨by omega, by omega⟩, by omega⟩
theorem CLR_ne {x m : Nat} (h : CLR x m) (o : Nat) (ho : o < 1) : RN x (m + o) := by
  obtain ⟨l, ⟨j, hj, rfl⟩, rfl⟩ := h; exact ⟨⟨by omega, by omega⟩, by omega⟩
theorem RDR_ne {x s : Nat} (h : RDR x s) : RN x s := by
  rcases h with ⟨m, hm, rfl⟩ | ⟨l, hl, rfl | rfl⟩ | ⟨k, hk, rfl⟩
  · exact MSR_ne hm 1 (by decide)
  · exact LDR_ne hl 1 (by decide)
  · exact LDR_ne hl 4 (by decide)
  · exact KPR_ne hk 1 (by decide)
theorem W16_ne {x s : Nat} (h : W16 x s) : RN x s := by
  rcases h with ⟨m, hm, rfl⟩ | ⟨v, hv, rfl⟩
  · exact MSR_ne hm 1 (by decide)
  · exact VTR_ne hv 1 (by decide)
theorem vp_mono {i : Int32} {n N : Nat} (h : vp_in i n) (hN : n ≤ N) : vp_in i N := fun k => h (k.imp_right (Nat.le_trans hN))
theorem div32v {r : Int32} (h1 : ¬ r < 0) (h2 : ¬ nI 300 ≤ r) : vp_in (r / (Int8.ofInt 32).toInt32) 10 := by
  obtain ⟨j, hj, rfl⟩ := nI_of h1
  have hlt : j < 300 := Nat.lt_of_not_le (fun k => h2 ((nI_leI (a := 300) (b := j) (by decide) hj).mpr k))
  rw [div32 hlt]
  exact vp_in_nI (by omega) (by decide)
theorem mod_e : ∀ a, a < 29 → ∀ b, b < 29 → nI (29 * a + b) - nI (29 * a + b) / (Int16.ofInt 400).toInt32 * (Int16.ofInt 400).toInt32 = nI ((29 * a + b) % 400) := by decide +kernel
theorem mod400 {v w : Int32} (h1 : vp_in v 400) (h2 : vp_in w 402) : vp_in ((v + w) - (v + w) / (Int16.ofInt 400).toInt32 * (Int16.ofInt 400).toInt32) 400 := by
  obtain ⟨a, ha, rfl⟩ := vp_in_of h1 (by decide)
  obtain ⟨b, hb, rfl⟩ := vp_in_of h2 (by decide)
  rw [nI_add]
  have k := mod_e ((a + b) / 29) (by omega) ((a + b) % 29) (by omega)
  rw [show 29 * ((a + b) / 29) + (a + b) % 29 = a + b by omega] at k
  rw [k]
  exact vp_in_nI (Nat.mod_lt _ (by decide)) (by decide)
theorem ex_gen {G : GE} {d mc ms : Nat} {M : MT} {pc : Nat} {ls : List (Nat × Value)} {st : List Value} {g : GT} {Q : RT → GT → Prop} {v : Int32} (k : ∀ w, ex_W G d mc ms M pc ls (.int w :: st) g Q) : ex_W G d mc ms M pc ls (.int v :: st) g Q := k v
section ESA
variable {G : GE} {d mc ms : Nat} {M : MT} {pc : Nat} {ls : List (Nat × Value)} {st stk : List Value} {g : GT} {Q : RT → GT → Prop} {x : Nat} {U : UT}
theorem sf_getHd {idx : Nat} (I : INV x U g) (hM : mt_ok M = true) (hf : mt_in M pc (.getfield idx) 3) (hp : (mt_f M).lookup idx = some (0, 3)) (hk : gx_K g (x + 1) = 1) (k : ∀ v, vp_in v 400 → ex_W G d mc ms M (pc + 3) ls (.int v :: st) g Q) : ex_W G d mc ms M pc ls (.ref (x + 1) :: st) g Q :=
  ex_getI hM hf hp rfl hk (k _ I.2.2.2.2.2.1)
theorem sf_getSz {idx : Nat} (I : INV x U g) (hM : mt_ok M = true) (hf : mt_in M pc (.getfield idx) 3) (hp : (mt_f M).lookup idx = some (0, 4)) (hk : gx_K g (x + 1) = 1) (k : vp_in (gx_I g 4 (x + 1)) 401 → ex_W G d mc ms M (pc + 3) ls (.int (gx_I g 4 (x + 1)) :: st) g Q) : ex_W G d mc ms M pc ls (.ref (x + 1) :: st) g Q :=
  ex_getI hM hf hp rfl hk (k I.2.2.2.2.2.2.1)
theorem sf_putHd {idx : Nat} {v : Int32} (I : INV x U g) (hM : mt_ok M = true) (hf : mt_in M pc (.putfield idx) 3) (hp : (mt_f M).lookup idx = some (0, 3)) (hk : gx_K g (x + 1) = 1) (hv : vp_in v 400) (k : ∀ g, INV x U g → ex_W G d mc ms M (pc + 3) ls st g Q) : ex_W G d mc ms M pc ls (.int v :: .ref (x + 1) :: st) g Q :=
  ex_putI hM hf hp hk rfl (k _ (INV_hd I hv))
theorem sf_putSz {idx : Nat} {v : Int32} (I : INV x U g) (hM : mt_ok M = true) (hf : mt_in M pc (.putfield idx) 3) (hp : (mt_f M).lookup idx = some (0, 4)) (hk : gx_K g (x + 1) = 1) (hv : vp_in v 401) (k : ∀ g, INV x U g → ex_W G d mc ms M (pc + 3) ls st g Q) : ex_W G d mc ms M pc ls (.int v :: .ref (x + 1) :: st) g Q :=
  ex_putI hM hf hp hk rfl (k _ (INV_sz I hv))
theorem sf_ring {i : Int32} (I : INV x U g) (hM : mt_ok M = true) (hf : mt_in M pc (.aaload) 1) (hin : vp_in i 400) (k : ∀ q, MSR x q → ex_W G d mc ms M (pc + 1) ls (.ref q :: st) g Q) : ex_W G d mc ms M pc ls (.int i :: .ref (x + 2) :: st) g Q :=
  sf_node (n := 0) (N := 400) (kx := 7) (R := MSR) hM hf (by decide) (fk I.1 2 rfl) (fn I.1 2 rfl) (by decide) hin I.2.2.2.1 (fun q h => fk (INV_6 I h) 0 rfl) (by decide) k
theorem sf_ringput {i : Int32} {q : Nat} (I : INV x U g) (h : MSR x q) (hM : mt_ok M = true) (hf : mt_in M pc (.aastore) 1) (hin : vp_in i 400) (k : ∀ g, INV x U g → ex_W G d mc ms M (pc + 1) ls st g Q) : ex_W G d mc ms M pc ls (.ref q :: .int i :: .ref (x + 2) :: st) g Q :=
  ex_aast hM hf (n := 0) (by decide) (fk I.1 2 rfl) (fk (INV_6 I h) 0 rfl) (by rw [fn I.1 2 rfl]; exact hin) (k _ (INV_O I h))
theorem sf_taken {idx : Nat} (I : INV x U g) (hM : mt_ok M = true) (hf : mt_in M pc (.getfield idx) 3) (hp : (mt_f M).lookup idx = some (0, 1)) (k : ∀ q, MSR x q → ex_W G d mc ms M (pc + 3) ls (.ref q :: st) g Q) : ex_W G d mc ms M pc ls (.ref (x + 1) :: st) g Q :=
  ex_getRx hM hf hp rfl (fk I.1 1 rfl) rfl (fk (INV_6 I I.2.2.2.2.1) 0 rfl) (by decide) (k _ I.2.2.2.2.1)
theorem sf_puttk {idx q : Nat} (I : INV x U g) (h : MSR x q) (hM : mt_ok M = true) (hf : mt_in M pc (.putfield idx) 3) (hp : (mt_f M).lookup idx = some (0, 1)) (k : ∀ g, INV x U g → ex_W G d mc ms M (pc + 3) ls st g Q) : ex_W G d mc ms M pc ls (.ref q :: .ref (x + 1) :: st) g Q :=
  ex_putRx hM hf hp (fk I.1 1 rfl) rfl (fk (INV_6 I h) 0 rfl) (by decide) (k _ (INV_tk I h))
theorem sf_wasted {idx : Nat} (I : INV x U g) (hM : mt_ok M = true) (hf : mt_in M pc (.getfield idx) 3) (hp : (mt_f M).lookup idx = some (0, 2)) (k : ∀ q, MSR x q → ex_W G d mc ms M (pc + 3) ls (.ref q :: st) g Q) : ex_W G d mc ms M pc ls (.ref (x + 1) :: st) g Q :=
  have h : MSR x (x + 805) := ⟨401, by decide, by omega⟩
  ex_getRx hM hf hp rfl (fk I.1 1 rfl) (I.1.2 (1, 2, 805) (by decide +kernel)) (fk (x := x + 805) (a := 0) (INV_6 I h) 0 rfl) (by decide) (k _ h)
end ESA
theorem sz_inc {v : Int32} (h1 : vp_in v 401) (h2 : ¬ (Int16.ofInt 400).toInt32 ≤ v) : vp_in (v + Int32.ofInt 1) 401 := by
  obtain ⟨j, hj, rfl⟩ := vp_in_of h1 (by decide)
  have hlt : j < 400 := Nat.lt_of_not_le (fun k => h2 ((nI_leI (a := 400) (b := j) (by decide) (by omega)).mpr k))
  have e : nI j + Int32.ofInt 1 = nI (j + 1) := nI_1 j
  rw [e]
  exact vp_in_nI (by omega) (by decide)
theorem not_le_lt {a b : Int32} (h : ¬ b ≤ a) : a < b := by rw [← Int32.not_le]; exact h
theorem w1200 {r s : Int32} (h1 : ¬ r < 0) (h2 : ¬ (Int16.ofInt 300).toInt32 ≤ r) (hs : vp_in s 16) : vp_in (r * Int32.ofInt 4 + s / Int32.ofInt 4) 1200 := by
  obtain ⟨i, hi, rfl⟩ := vp_in_of (vin_of (n := 300) h1 (not_le_lt h2) (by decide)) (by decide)
  obtain ⟨j, hj, rfl⟩ := vp_in_of hs (by decide)
  have e1 : nI j / Int32.ofInt 4 = nI (j / 4) := by
    have k : ∀ j, j < 16 → nI j / Int32.ofInt 4 = nI (j / 4) := by decide +kernel
    exact k j hj
  have e2 : nI i * Int32.ofInt 4 = nI (i * 4) := (Int32.ofNat_mul i 4).symm
  rw [e1, e2, nI_add]
  exact vp_in_nI (by omega) (by decide)
theorem w48 {t s : Int32} (h1 : ¬ t < 0) (h2 : ¬ Int32.ofInt 3 ≤ t) (hs : vp_in s 16) : vp_in (t * (Int8.ofInt 16).toInt32 + s) 48 := by
  obtain ⟨i, hi, rfl⟩ := vp_in_of (vin_of (n := 3) h1 (not_le_lt h2) (by decide)) (by decide)
  obtain ⟨j, hj, rfl⟩ := vp_in_of hs (by decide)
  have e2 : nI i * (Int8.ofInt 16).toInt32 = nI (i * 16) := (Int32.ofNat_mul i 16).symm
  rw [e2, nI_add]
  exact vp_in_nI (by omega) (by decide)
theorem nI_m1 (v : Int32) : v + Int32.ofInt (-1) = v - 1 := by
  have e : Int32.ofInt (-1) = -1 := by decide
  rw [e, ← Int32.sub_eq_add_neg]
theorem nI_dec (j : Nat) : nI (j + 1) + Int32.ofInt (-1) = nI j := by
  have e : Int32.ofInt (-1) = -1 := by decide
  rw [e, ← Int32.sub_eq_add_neg]
  exact nI_pred j
def pL (x : Nat) : Option Value → Prop := fun v => ∃ a, v = some (.ref a) ∧ LDR x a
section ESN
variable {G : GE} {d mc ms : Nat} {M : MT} {pc : Nat} {ls : List (Nat × Value)} {st stk : List Value} {g : GT} {Q : RT → GT → Prop} {x : Nat} {U : UT}
theorem sf_leaders {i : Int32} (I : INV x U g) (hM : mt_ok M = true) (hf : mt_in M pc (.aaload) 1) (hin : vp_in i 3) (k : ∀ q, LDR x q → ex_W G d mc ms M (pc + 1) ls (.ref q :: st) g Q) : ex_W G d mc ms M pc ls (.int i :: .ref (x + 814) :: st) g Q :=
  sf_node (n := 1) (N := 3) (kx := 6) (R := LDR) hM hf (by decide) (fk I.1 10 rfl) (fn I.1 10 rfl) (by decide) hin (fun j hj => ⟨j, hj, by
    have h := I.2.1 (814, j, 815 + 11 * j) (by
      rcases (by omega : j = 0 ∨ j = 1 ∨ j = 2) with rfl | rfl | rfl <;> decide +kernel)
    exact h⟩) (fun q h => fk (INV_5 I h).1 0 rfl) (by decide) k
theorem o_all {g : GT} {a : Nat} {n : Nat} (os : Nat → Nat) (h : tO O11 g x) (b : (List.range n).all (fun j => O11.contains (a, j, os j)) = true) (j : Nat) (hj : j < n) : gx_O g (x + a) j = x + os j :=
  h (a, j, os j) (List.contains_iff_mem.mp (List.all_eq_true.mp b j (List.mem_range.mpr hj)))
theorem sf_keepers {i : Int32} (I : INV x U g) (hM : mt_ok M = true) (hf : mt_in M pc (.aaload) 1) (hin : vp_in i 9) (k : ∀ q, KPR x q → ex_W G d mc ms M (pc + 1) ls (.ref q :: st) g Q) : ex_W G d mc ms M pc ls (.int i :: .ref (x + 848) :: st) g Q :=
  sf_node (n := 2) (N := 9) (kx := 4) (R := KPR) hM hf (by decide) (fk I.1 44 rfl) (fn I.1 44 rfl) (by decide) hin (fun j hj => ⟨j, hj, o_all (fun j => 849 + 2 * j) I.2.1 (by decide +kernel) j hj⟩) (fun q h => fk (INV_3 I h).1 0 rfl) (by decide) k
theorem sf_voters {i : Int32} (I : INV x U g) (hM : mt_ok M = true) (hf : mt_in M pc (.aaload) 1) (hin : vp_in i 12) (k : ∀ q, VTR x q → ex_W G d mc ms M (pc + 1) ls (.ref q :: st) g Q) : ex_W G d mc ms M pc ls (.int i :: .ref (x + 867) :: st) g Q :=
  sf_node (n := 3) (N := 12) (kx := 11) (R := VTR) hM hf (by decide) (fk I.1 63 rfl) (fn I.1 63 rfl) (by decide) hin (fun j hj => ⟨j, hj, o_all (fun j => 868 + 2 * j) I.2.1 (by decide +kernel) j hj⟩) (fun q h => fk (INV_10 I h).1 0 rfl) (by decide) k
end ESN
/-! calls of the face: they answer, or throw what they may -/
def SX (x : Nat) (U : UT) (A : List Nat) (P : Option Value → Prop) : RT → GT → Prop := fun r g => ((∃ v, r = .inl v ∧ P v) ∨ ∃ e, e ∈ A ∧ r = .inr (cx_E e)) ∧ INV x U g
theorem s_req {G : GE} (hst : (ge_l G).stackTraces = false) {g : GT} {i : Int32} {n : Nat} (hn : n < 2 ^ 31) : ex_M G 1 1 6 my_X11_requireIndex [.int i, .int (nI n)] g (fun r g' => (r = .inl none ∧ vp_in i n ∧ g' = g) ∨ (r = .inr (cx_E 100) ∧ ∃ k, g' = px_Z g k)) := by
  by_cases h : vp_in i n
  · exact ex_M.mono (m_reqOk hst h hn rfl) (fun r g' q => Or.inl ⟨q.1, h, q.2⟩)
  · exact ex_M.mono (m_reqBad hst h hn rfl) (fun r g' q => Or.inr ⟨q.1, q.2.elim (fun k e => ⟨k, e.2⟩)⟩)
section ESX
variable {G : GE} {d mc ms : Nat} {M : MT} {pc : Nat} {ls : List (Nat × Value)} {st stk : List Value} {g : GT} {Q : RT → GT → Prop} {x : Nat} {U : UT}
theorem sf_req {idx n1 d1 mc1 ms1 n : Nat} {i b : Int32} (hM : mt_ok M = true) (hf : mt_in M pc (.invokestatic idx) 3) (hp : (mt_m M).lookup idx = some (my_X11_requireIndex, n1, 1, d1, mc1, ms1)) (hst : (ge_l G).stackTraces = false) (hn : n < 2 ^ 31) (hb : b = nI n) (h1 : d1 = 1 ∧ mc1 = 1 ∧ ms1 = 6) (hh : mt_h M = []) (hlen : 2 = n1) (hd : d1 < d) (hcat : (st.map fun v => v.category).sum ≤ 8) (hm : mc1 ≤ mc ∧ ms1 ≤ ms)
    (hq : ∀ k, Q (.inr (cx_E 100)) (px_Z g k)) (k : vp_in i n → ex_W G d (mc - mc1) (ms - ms1) M (pc + 3) ls st g Q) : ex_W G d mc ms M pc ls (.int b :: .int i :: st) g Q := by
  subst hb
  obtain ⟨rfl, rfl, rfl⟩ := h1
  refine ex_callS (As := [.int i, .int (nI n)]) hM hf hp hh hd hlen hcat hm (s_req hst hn) (fun v' g' h => ?_) (fun E g' h => ?_)
  · rcases h with ⟨e, h2, rfl⟩ | ⟨e, -⟩
    · cases e
      exact k h2
    · cases e
  · rcases h with ⟨e, -⟩ | ⟨e, q, rfl⟩
    · cases e
    · cases e
      exact hq q
theorem sf_Vx {idx n t d1 mc1 ms1 b : Nat} {y : MethodName} {As : List Value} {P : Option Value → Prop} {A : List Nat} (hM : mt_ok M = true) (hf : mt_in M pc (.invokevirtual idx) 3) (hp : (mt_m M).lookup idx = some (y, n, t, d1, mc1, ms1)) (hcall : ex_M G d1 mc1 ms1 y (.ref b :: As) g (SX x U A P)) (hs : stk = As.reverse ++ .ref b :: st) (hk : gx_K g b = t - 10 + 1) (hh : mt_h M = []) (hlen : As.length = n) (ht : 10 ≤ t) (hd : d1 < d)
    (hcat : (st.map fun v => v.category).sum ≤ 8) (hm : mc1 ≤ mc ∧ ms1 ≤ ms) (kx : ∀ e g, e ∈ A → INV x U g → Q (.inr (cx_E e)) g) (k : ∀ v g, P v → INV x U g → ex_W G d (mc - mc1) (ms - ms1) M (pc + 3) ls (v.toList ++ st) g Q) : ex_W G d mc ms M pc ls stk g Q := by
  rw [hs]
  refine ex_callV hM hf hp ht hh hd hlen hk hcat hm hcall (fun v' g' h => ?_) (fun E g' h => ?_)
  · obtain ⟨⟨v, h1, h2⟩ | ⟨e, -, h1⟩, h3⟩ := h
    · cases h1
      exact k _ _ h2 h3
    · cases h1
  · obtain ⟨⟨v, h1, -⟩ | ⟨e, he, h1⟩, h3⟩ := h
    · cases h1
    · cases h1
      exact kx e _ he h3
end ESX
theorem sz_pos {i v : Int32} {n : Nat} (h : vp_in i n) (e : v = nI n) (hn : n < 2 ^ 31 := by omega) : v ≠ 0 := by
  obtain ⟨j, hj, -⟩ := vp_in_of h hn
  rw [e]
  exact nI_ne0 (by omega) hn
theorem w48v {t s : Int32} (h : vp_in t 3) (hs : vp_in s 16) : vp_in (t * (Int8.ofInt 16).toInt32 + s) 48 := by
  obtain ⟨i, hi, rfl⟩ := vp_in_of h (by decide)
  obtain ⟨j, hj, rfl⟩ := vp_in_of hs (by decide)
  have e2 : nI i * (Int8.ofInt 16).toInt32 = nI (i * 16) := (Int32.ofNat_mul i 16).symm
  rw [e2, nI_add]
  exact vp_in_nI (by omega) (by decide)
