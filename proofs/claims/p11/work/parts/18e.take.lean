/-! ===== take, has, layAll ===== -/
theorem MC_bd {y : Nat} {D : UT} {C E R P : Nat → Prop} {g : GT} (h : MC y D C E R P g) (n : Nat) {o N B i : Nat} (hn : BMt[n]? = some (o, N, B)) (hi : i < N) : vp_in (gx_A g (y + o) i) B := h.2.1 (o, N, B) (List.mem_of_getElem? hn) i hi
theorem MI_s {y c : Nat} {D : UT} {R : Nat → Prop} {g : GT} (I : MI y D c R g) : sh T12 g y := by
  obtain ⟨A, -, -, h⟩ := I
  exact h.1
def TK (y : Nat) (D : UT) (c : Nat) (R : Nat → Prop) : RT → GT → Prop := fun r g => ∃ t, r = .inl (some (.int (nI t))) ∧ t < 402 ∧ MI y D c R g
theorem s_X12_take {G : GE} (hst : (ge_l G).stackTraces = false) {y c A k : Nat} {D : UT} {R : Nat → Prop} {g : GT} (hA : A ≤ 400) (ha : gx_I g 1248 y = nI A) (h0 : MC y D (fun j => j = c) (fun _ => False) R (fun p => p < A) g) (hk : k < A) : ex_M G 1 0 0 my_X12_take [.ref y, .int (nI k)] g (TK y D c R) := by
  have s0 := h0.1
  refine ex_M_of ok_X12_take cw_X12_take rfl hst (Nat.le_of_ble_eq_true rfl) ?_
  refine ex_aload_n ok_X12_take (mi 0 rfl) rfl ?_
  refine ex_getRx ok_X12_take (mi 1 rfl) rfl rfl (fk s0 0 rfl) (fr s0 47 rfl) (fk s0 48 rfl) (by decide) ?_
  refine ex_iload_n ok_X12_take (mi 2 rfl) rfl ?_
  refine sm_iald ok_X12_take (mi 3 rfl) (fk s0 48 rfl) (fn s0 48 rfl) rfl (by omega) (by decide) ?_
  obtain ⟨t, ht, et⟩ := vp_in_of (MC_bd h0 14 rfl (i := k) (by omega)) (by decide)
  refine ex_top (w := nI t) et ?_
  refine ex_istore_n ok_X12_take (mi 4 rfl) ?_
  refine ex_aload_n ok_X12_take (mi 5 rfl) rfl ?_
  refine ex_getRx ok_X12_take (mi 6 rfl) rfl rfl (fk s0 0 rfl) (fr s0 48 rfl) (fk s0 49 rfl) (by decide) ?_
  refine ex_iload_n ok_X12_take (mi 7 rfl) rfl ?_
  refine ex_iconst ok_X12_take (mi 8 rfl) ?_
  refine sm_bast ok_X12_take (mi 9 rfl) (fk s0 49 rfl) (fn s0 49 rfl) rfl ht (by decide) (Or.inl (by decide)) ?_
  have m1 := MC_u (i := t) (v := Int32.ofInt 0) h0
  have m2 : MC y D (fun j => j = c) (fun _ => False) R (fun p => p < A ∧ p ≠ k) (px_A g (y + 49) t (Int32.ofInt 0)) := MC_w m1 (fun j _ hu k1 => by
    have hjt : j ≠ t := fun e => hu (by rw [e, pxA_e]; decide)
    rcases k1 with k1 | ⟨p, p1, p2, p3⟩
    · rcases k1 with k1 | k1
      · exact Or.inl k1.2
      · exact absurd k1.1 hjt
    · refine Or.inr ⟨p, ⟨p1, fun e => hjt ?_⟩, p2, p3⟩
      rw [e, pxA_n (by decide), et] at p3
      have := congrArg Int32.toNatClampNeg p3
      rw [nI_clamp (by omega), nI_clamp (by omega)] at this
      exact this.symm) (fun _ _ _ k => k.elim) (fun _ _ k => Or.inr k)
  have s1 := m2.1
  refine ex_aload_n ok_X12_take (mi 10 rfl) rfl ?_
  refine ex_dup ok_X12_take (mi 11 rfl) rfl ?_
  refine ex_getI ok_X12_take (mi 12 rfl) rfl rfl (fk s1 0 rfl) ?_
  refine ex_top (w := nI (A - 1 + 1)) (by rw [show A - 1 + 1 = A by omega]; exact ha) ?_
  refine ex_iconst ok_X12_take (mi 13 rfl) ?_
  refine ex_isub ok_X12_take (mi 14 rfl) ?_
  refine ex_top (w := nI (A - 1)) (nI_pred _) ?_
  refine ex_putI ok_X12_take (mi 15 rfl) rfl (fk s1 0 rfl) rfl ?_
  have m3 := MC_I (f := 1248) (v := nI (A - 1)) m2
  refine ex_iload_n ok_X12_take (mi 16 rfl) rfl ?_
  refine ex_istore_n ok_X12_take (mi 17 rfl) ?_
  have lp : ∀ n i : Nat, i + n = A - 1 → ∀ g : GT, gx_I g 1248 y = nI (A - 1) → MC y D (fun j => j = c) (fun _ => False) R (fun p => p < A ∧ p ≠ i) g → ex_W G 1 0 0 M_X12_take 26 [(0, .ref y), (2, .int (nI t)), (3, .int (nI i))] [] g (TK y D c R) := by
    intro n
    induction n with
    | zero =>
      intro i hi g ha h
      have s := h.1
      refine ex_iload_n ok_X12_take (mi 18 rfl) rfl ?_
      refine ex_aload_n ok_X12_take (mi 19 rfl) rfl ?_
      refine ex_getI ok_X12_take (mi 20 rfl) rfl rfl (fk s 0 rfl) ?_
      refine ex_top (w := nI (A - 1)) ha ?_
      refine ex_icmp_ge (tgt := 54) ok_X12_take (mi 21 rfl) rfl (fun _ => ?_) (fun hn => absurd (nI_le (by omega) (by omega)) hn)
      refine ex_iload_n ok_X12_take (mi 34 rfl) rfl ?_
      refine ex_iret ok_X12_take (mi 35 rfl) rfl ?_
      exact ⟨t, rfl, ht, A - 1, by omega, ha, MC_w h (fun _ _ _ k => k.imp id (fun k => k.elim (fun p k => ⟨p, by have := k.1.1; have := k.1.2; omega, k.2⟩))) (fun _ _ _ k => k.elim) (fun _ _ k => Or.inr k)⟩
    | succ n ih =>
      intro i hi g ha h
      have s := h.1
      refine ex_iload_n ok_X12_take (mi 18 rfl) rfl ?_
      refine ex_aload_n ok_X12_take (mi 19 rfl) rfl ?_
      refine ex_getI ok_X12_take (mi 20 rfl) rfl rfl (fk s 0 rfl) ?_
      refine ex_top (w := nI (A - 1)) ha ?_
      refine ex_icmp_ge (tgt := 54) ok_X12_take (mi 21 rfl) rfl (fun hn => absurd hn (nI_ge (by omega) (by omega))) (fun _ => ?_)
      refine ex_aload_n ok_X12_take (mi 22 rfl) rfl ?_
      refine ex_getRx ok_X12_take (mi 23 rfl) rfl rfl (fk s 0 rfl) (fr s 47 rfl) (fk s 48 rfl) (by decide) ?_
      refine ex_iload_n ok_X12_take (mi 24 rfl) rfl ?_
      refine ex_aload_n ok_X12_take (mi 25 rfl) rfl ?_
      refine ex_getRx ok_X12_take (mi 26 rfl) rfl rfl (fk s 0 rfl) (fr s 47 rfl) (fk s 48 rfl) (by decide) ?_
      refine ex_iload_n ok_X12_take (mi 27 rfl) rfl ?_
      refine ex_iconst ok_X12_take (mi 28 rfl) ?_
      refine ex_iadd ok_X12_take (mi 29 rfl) ?_
      refine ex_top (w := nI (i + 1)) (nI_add _ 1) ?_
      refine sm_iald ok_X12_take (mi 30 rfl) (fk s 48 rfl) (fn s 48 rfl) rfl (by omega) (by decide) ?_
      refine sm_iast ok_X12_take (mi 31 rfl) (fk s 48 rfl) (fn s 48 rfl) rfl (by omega) (by decide) ?_
      refine ex_iincx (w := nI (i + 1)) ok_X12_take (mi 32 rfl) rfl (nI_1 i) ?_
      refine ex_goto (tgt := 26) ok_X12_take (mi 33 rfl) rfl ?_
      have h1 := MC_o (P := fun p => p < A) (i := i) (v := gx_A g (y + 48) (i + 1)) (MC_w h (C' := fun j => j = c) (E' := fun _ => False) (R' := R) (P' := fun p => p < A) (fun _ _ _ k => k.imp id (fun k => k.elim (fun p k => ⟨p, k.1.1, k.2⟩))) (fun _ _ _ k => k.elim) (fun _ _ k => Or.inr k)) (MC_bd h 14 rfl (by omega)) h
      refine ex_ls (ls' := [(0, .ref y), (2, .int (nI t)), (3, .int (nI (i + 1)))]) ⟨rfl, rfl, rfl, trivial⟩ (ih (i + 1) (by omega) _ ha (MC_w h1 (fun j _ _ k => ?_) (fun _ _ _ k => k.elim) (fun _ _ k => Or.inr k)))
      rcases k with k | ⟨p, ⟨p1, p2⟩, p3, p4⟩
      · exact Or.inl k
      · by_cases e : p = i + 1
        · refine Or.inr ⟨i, ⟨by omega, by omega⟩, by omega, ?_⟩
          rw [pxA_e]
          rw [e, pxA_i (by omega)] at p4
          exact p4
        · exact Or.inr ⟨p, ⟨p1, e⟩, p3, p4⟩
  exact ex_ls (ls' := [(0, .ref y), (2, .int (nI t)), (3, .int (nI k))]) ⟨rfl, rfl, rfl, trivial⟩ (lp (A - 1 - k) k (by omega) _ (by rw [gxI_I, if_pos ⟨rfl, rfl⟩]) m3)
abbrev HB (p : Int32) (k : Nat) : Prop := ((p >>> (nI k &&& 31)) &&& Int32.ofInt 1) = Int32.ofInt 1
theorem s_has {G : GE} (hst : (ge_l G).stackTraces = false) {g : GT} {p : Int32} {k : Nat} : ex_M G 1 0 0 my_X12_has [.int p, .int (nI k)] g (SVp g (fun v => ∃ i, v = some (.int i) ∧ (i = 0 ∨ i = 1) ∧ (i ≠ 0 → HB p k))) := by
  refine ex_M_of ok_X12_has cw_X12_has rfl hst (Nat.le_of_ble_eq_true rfl) ?_
  refine ex_iload_n ok_X12_has (mi 0 rfl) rfl ?_
  refine ex_iload_n ok_X12_has (mi 1 rfl) rfl ?_
  refine ex_ishr ok_X12_has (mi 2 rfl) ?_
  refine ex_iconst ok_X12_has (mi 3 rfl) ?_
  refine ex_iand ok_X12_has (mi 4 rfl) ?_
  refine ex_iconst ok_X12_has (mi 5 rfl) ?_
  refine ex_icmp_ne (tgt := 13) ok_X12_has (mi 6 rfl) rfl (fun h6 => ?_) (fun h6 => ?_)
  · refine ex_iconst ok_X12_has (mi 9 rfl) ?_
    refine ex_zret ok_X12_has (mi 10 rfl) rfl (by decide) ?_
    exact ⟨_, rfl, ⟨_, rfl, by decide, fun e => absurd (by decide) e⟩, rfl⟩
  · refine ex_iconst ok_X12_has (mi 7 rfl) ?_
    refine ex_goto (tgt := 14) ok_X12_has (mi 8 rfl) rfl ?_
    refine ex_zret ok_X12_has (mi 10 rfl) rfl (by decide) ?_
    exact ⟨_, rfl, ⟨_, rfl, by decide, fun _ => h6⟩, rfl⟩
theorem HB_9 : ∀ a, a < 16 → ∀ b, b < 32 → ∀ k, k < 12 → 9 ≤ k → ¬ HB (nI (32 * a + b)) k := by decide +kernel
theorem HB_3 : ∀ a, a < 8 → ∀ k, k < 12 → 3 ≤ k → ¬ HB (nI a) k := by decide +kernel
def TO (p : Int32) (κ : Nat) : Prop := ∀ k, k < 12 → HB p k → vb (nI k) (kb κ).1
theorem TO12 {p : Int32} {κ : Nat} (h : (kb κ).1 = 12) : TO p κ := fun k hk _ => Or.inr (by rw [h]; exact vp_in_nI hk (by decide))
theorem TO9 {p : Int32} {κ : Nat} (h : (kb κ).1 = 9) (hp : vp_in p 512) : TO p κ := fun k hk hb => Or.inr (by
  rw [h]
  obtain ⟨j, hj, rfl⟩ := vp_in_of hp (by decide)
  refine vp_in_nI (Nat.lt_of_not_le (fun h9 => ?_)) (by decide)
  have := HB_9 (j / 32) (by omega) (j % 32) (by omega) k hk h9
  rw [show 32 * (j / 32) + j % 32 = j by omega] at this
  exact this hb)
theorem TO3 {p : Int32} {κ : Nat} (h : (kb κ).1 = 3) (hp : vp_in p 8) : TO p κ := fun k hk hb => Or.inr (by
  rw [h]
  obtain ⟨j, hj, rfl⟩ := vp_in_of hp (by decide)
  exact vp_in_nI (Nat.lt_of_not_le (fun h9 => HB_3 j hj k hk h9 hb)) (by decide))
section EMV
variable {G : GE} {d mc ms : Nat} {M : MT} {pc : Nat} {ls : List (Nat × Value)} {st stk : List Value} {g : GT} {Q : RT → GT → Prop}
theorem sm_V {idx n t d1 mc1 ms1 b : Nat} {y : MethodName} {As : List Value} {Φ : RT → GT → Prop} (hM : mt_ok M = true) (hf : mt_in M pc (.invokevirtual idx) 3) (hp : (mt_m M).lookup idx = some (y, n, t, d1, mc1, ms1)) (hcall : ex_M G d1 mc1 ms1 y (.ref b :: As) g Φ) (hs : stk = As.reverse ++ .ref b :: st) (hk : gx_K g b = t - 10 + 1) (hh : mt_h M = []) (hlen : As.length = n) (ht : 10 ≤ t) (hd : d1 < d)
    (hcat : (st.map fun v => v.category).sum ≤ 8) (hm : mc1 ≤ mc ∧ ms1 ≤ ms) (hno : ∀ E g', ¬ Φ (.inr E) g') (k : ∀ v g', Φ (.inl v) g' → ex_W G d (mc - mc1) (ms - ms1) M (pc + 3) ls (v.toList ++ st) g' Q) : ex_W G d mc ms M pc ls stk g Q := by
  rw [hs]
  exact ex_callV hM hf hp ht hh hd hlen hk hcat hm hcall (fun v' g' h => k _ _ h) (fun E g' h => absurd h (hno E g'))
end EMV
theorem LV_no {y c κ : Nat} {D : UT} {R : Nat → Prop} : ∀ E g', ¬ LV y D c R κ (.inr E) g' := fun E g' h => by
  obtain ⟨b, h1, -⟩ := h
  cases h1
/-- the ends of what keeps the model -/
def SM (y : Nat) (D : UT) (c : Nat) (R : Nat → Prop) (Pv : Option Value → Prop) : RT → GT → Prop := fun r g => ∃ v, r = .inl v ∧ Pv v ∧ MI y D c R g
theorem SM_no {y c : Nat} {D : UT} {R : Nat → Prop} {Pv : Option Value → Prop} : ∀ E g', ¬ SM y D c R Pv (.inr E) g' := fun E g' h => by
  obtain ⟨b, h1, -⟩ := h
  cases h1
theorem s_X12_layAll {G : GE} (hst : (ge_l G).stackTraces = false) {y c : Nat} {D : UT} {R : Nat → Prop} {g : GT} {κ : Nat} {p1 p2 p3 p4 p5 : Int32} (I : MI y D c R g) (hκ : κ < 25) (h1 : vb p1 (kb κ).2.1) (h2 : TO p2 κ) (h3 : vb p3 (kb κ).2.2.1) (h4 : vb p4 (kb κ).2.2.2.1) (h5 : vb p5 (kb κ).2.2.2.2.1) : ex_M G 2 0 0 my_X12_layAll [.ref y, .int (nI κ), .int p1, .int p2, .int p3, .int p4, .int p5] g (SM y D c R pI) := by
  refine ex_M_of ok_X12_layAll cw_X12_layAll rfl hst (Nat.le_of_ble_eq_true rfl) ?_
  refine ex_iconst ok_X12_layAll (mi 0 rfl) ?_
  refine ex_istore ok_X12_layAll (mi 1 rfl) ?_
  refine ex_iconst ok_X12_layAll (mi 2 rfl) ?_
  refine ex_istore ok_X12_layAll (mi 3 rfl) ?_
  have lp : ∀ n k : Nat, k + n = 12 → ∀ (q : Int32) (g : GT), MI y D c R g → ex_W G 2 0 0 M_X12_layAll 6 [(0, .ref y), (1, .int (nI κ)), (2, .int p1), (3, .int p2), (4, .int p3), (5, .int p4), (6, .int p5), (7, .int q), (8, .int (nI k))] [] g (SM y D c R pI) := by
    intro n
    induction n with
    | zero =>
      intro k hk q g I
      obtain rfl : k = 12 := by omega
      refine ex_iload ok_X12_layAll (mi 4 rfl) rfl ?_
      refine ex_bipush ok_X12_layAll (mi 5 rfl) ?_
      refine ex_icmp_ge (tgt := 47) ok_X12_layAll (mi 6 rfl) rfl (fun _ => ?_) (fun hn => absurd (by decide) hn)
      refine ex_iload ok_X12_layAll (mi 23 rfl) rfl ?_
      refine ex_iret ok_X12_layAll (mi 24 rfl) rfl ?_
      exact ⟨_, rfl, ⟨_, rfl⟩, I⟩
    | succ n ih =>
      intro k hk q g I
      refine ex_iload ok_X12_layAll (mi 4 rfl) rfl ?_
      refine ex_bipush ok_X12_layAll (mi 5 rfl) ?_
      refine ex_icmp_ge (tgt := 47) ok_X12_layAll (mi 6 rfl) rfl (fun hn => absurd hn (nI_ge (b := 12) (by omega) (by decide))) (fun _ => ?_)
      refine ex_iload_n ok_X12_layAll (mi 7 rfl) rfl ?_
      refine ex_iload ok_X12_layAll (mi 8 rfl) rfl ?_
      refine sf_Sp (As := [_, _]) ok_X12_layAll (mi 9 rfl) rfl (s_has hst) rfl rfl rfl (by decide) (Nat.le_of_ble_eq_true rfl) (by decide) (fun z p => ?_)
      obtain ⟨b, rfl, hb, hh⟩ := p
      refine ex_if_eq (tgt := 41) ok_X12_layAll (mi 10 rfl) rfl (fun _ => ?_) (fun h19 => ?_)
      · refine ex_iincx (w := nI (k + 1)) ok_X12_layAll (mi 21 rfl) rfl (nI_1 k) ?_
        refine ex_goto (tgt := 6) ok_X12_layAll (mi 22 rfl) rfl ?_
        exact ex_ls (ls' := [(0, .ref y), (1, .int (nI κ)), (2, .int p1), (3, .int p2), (4, .int p3), (5, .int p4), (6, .int p5), (7, .int q), (8, .int (nI (k + 1)))]) ⟨rfl, rfl, rfl, rfl, rfl, rfl, rfl, rfl, rfl, trivial⟩ (ih (k + 1) (by omega) q g I)
      · refine ex_aload_n ok_X12_layAll (mi 11 rfl) rfl ?_
        refine ex_iload_n ok_X12_layAll (mi 12 rfl) rfl ?_
        refine ex_iload_n ok_X12_layAll (mi 13 rfl) rfl ?_
        refine ex_iload ok_X12_layAll (mi 14 rfl) rfl ?_
        refine ex_iload ok_X12_layAll (mi 15 rfl) rfl ?_
        refine ex_iload ok_X12_layAll (mi 16 rfl) rfl ?_
        refine ex_iload ok_X12_layAll (mi 17 rfl) rfl ?_
        refine sm_V (As := [_, _, _, _, _, _]) ok_X12_layAll (mi 18 rfl) rfl (s_X12_lay hst I hκ h1 (h2 k (by omega) (hh h19)) h3 h4 h5) rfl (fk (MI_s I) 0 rfl) rfl rfl (by decide) (by decide) (Nat.le_of_ble_eq_true rfl) (by decide) LV_no (fun v g1 hv => ?_)
        obtain ⟨b1, e1, -, I1, -⟩ := hv
        cases e1
        refine ex_istore ok_X12_layAll (mi 19 rfl) ?_
        refine ex_iinc ok_X12_layAll (mi 20 rfl) rfl ?_
        refine ex_iincx (w := nI (k + 1)) ok_X12_layAll (mi 21 rfl) rfl (nI_1 k) ?_
        refine ex_goto (tgt := 6) ok_X12_layAll (mi 22 rfl) rfl ?_
        exact ex_ls (ls' := [(0, .ref y), (1, .int (nI κ)), (2, .int p1), (3, .int p2), (4, .int p3), (5, .int p4), (6, .int p5), (7, .int _), (8, .int (nI (k + 1)))]) ⟨rfl, rfl, rfl, rfl, rfl, rfl, rfl, rfl, rfl, trivial⟩ (ih (k + 1) (by omega) _ g1 I1)
  exact ex_ls (ls' := [(0, .ref y), (1, .int (nI κ)), (2, .int p1), (3, .int p2), (4, .int p3), (5, .int p4), (6, .int p5), (7, .int _), (8, .int (nI 0))]) ⟨rfl, rfl, rfl, rfl, rfl, rfl, rfl, rfl, rfl, trivial⟩ (lp 12 0 (by decide) _ g I)
