/-! ===== bits (laws/BITS.to-paste of the kit) ===== -/
def bt (x : Int32) (i : Nat) : Bool := x.toBitVec.getLsbD i
theorem b_ext {x y : Int32} (h : ∀ i, i < 32 → bt x i = bt y i) : x = y := Int32.toBitVec_inj.mp (BitVec.eq_of_getLsbD_eq (fun i hi => h i hi))
theorem b_or (x y : Int32) (i : Nat) : bt (x ||| y) i = (bt x i || bt y i) := by unfold bt; rw [Int32.toBitVec_or, BitVec.getLsbD_or]
theorem b_and (x y : Int32) (i : Nat) : bt (x &&& y) i = (bt x i && bt y i) := by unfold bt; rw [Int32.toBitVec_and, BitVec.getLsbD_and]
theorem b_xor (x y : Int32) (i : Nat) : bt (x ^^^ y) i = (bt x i ^^ bt y i) := by unfold bt; rw [Int32.toBitVec_xor, BitVec.getLsbD_xor]
theorem b_big {x : Int32} {i : Nat} (h : 32 ≤ i) : bt x i = false := BitVec.getLsbD_of_ge _ _ h
theorem b_255 (i : Nat) : bt 255 i = decide (i < 8) := by
  rcases Nat.lt_or_ge i 32 with h | h
  · exact (by decide +kernel : ∀ i, i < 32 → bt 255 i = decide (i < 8)) i h
  · rw [b_big h, decide_eq_false (by omega)]
theorem b_65535 (i : Nat) : bt 65535 i = decide (i < 16) := by
  rcases Nat.lt_or_ge i 32 with h | h
  · exact (by decide +kernel : ∀ i, i < 32 → bt 65535 i = decide (i < 16)) i h
  · rw [b_big h, decide_eq_false (by omega)]
theorem b_m1 : ∀ i, i < 32 → bt (-1) i = true := by decide +kernel
theorem b_0 (i : Nat) : bt 0 i = false := BitVec.getLsbD_zero
theorem s_l : ∀ n, n < 32 → ((nI n &&& 31).toBitVec.smod 32).toNat = n := by decide +kernel
theorem s_u : ∀ n, n < 32 → (((nI n).toUInt32 &&& Int32.toUInt32 31).toBitVec % 32).toNat = n := by decide +kernel
theorem b_shl (n : Nat) (hn : n < 32) (x : Int32) {i : Nat} (hi : i < 32) : bt (x <<< (nI n &&& 31)) i = (decide (n ≤ i) && bt x (i - n)) := by
  unfold bt
  rw [Int32.toBitVec_shiftLeft]
  show (x.toBitVec <<< ((nI n &&& 31).toBitVec.smod 32).toNat).getLsbD i = _
  rw [s_l n hn, BitVec.getLsbD_shiftLeft]
  rcases Nat.lt_or_ge i n with h | h
  · simp [h, Nat.not_le.mpr h]
  · simp [hi, h, Nat.not_lt.mpr h]
theorem b_ushr (n : Nat) (hn : n < 32) (x : Int32) (i : Nat) : bt ((x.toUInt32 >>> ((nI n).toUInt32 &&& Int32.toUInt32 31)).toInt32) i = bt x (n + i) := by
  show (x.toUInt32 >>> ((nI n).toUInt32 &&& Int32.toUInt32 31)).toBitVec.getLsbD i = x.toUInt32.toBitVec.getLsbD (n + i)
  rw [UInt32.toBitVec_shiftRight]
  show (x.toUInt32.toBitVec >>> (((nI n).toUInt32 &&& Int32.toUInt32 31).toBitVec % 32).toNat).getLsbD i = _
  rw [s_u n hn, BitVec.getLsbD_ushiftRight]
theorem b_sshr (n : Nat) (hn : n < 32) (x : Int32) {i : Nat} (hi : i < 32) : bt (x >>> (nI n &&& 31)) i = if n + i < 32 then bt x (n + i) else bt x 31 := by
  unfold bt
  rw [Int32.toBitVec_shiftRight]
  show (x.toBitVec.sshiftRight ((nI n &&& 31).toBitVec.smod 32).toNat).getLsbD i = _
  rw [s_l n hn, BitVec.getLsbD_sshiftRight, BitVec.msb_eq_getLsbD_last]
  simp [hi]
theorem up_bit {u : Int32} {j : Nat} (hj : j < 32) : (u >>> (nI j &&& 31)) &&& nI 1 = 0 ↔ bt u j = false := by
  have b1 : bt (nI 1) 0 = true := by decide
  have bn : ∀ i, i < 32 → 0 < i → bt (nI 1) i = false := by decide +kernel
  constructor
  · intro h
    have e := congrArg (fun z => bt z 0) h
    rw [b_and, b_sshr j hj u (by decide), if_pos (by omega), b1, Bool.and_true, b_0] at e
    exact e
  · intro h
    refine b_ext (fun i hi => ?_)
    rw [b_and, b_0]
    by_cases e : i = 0
    · subst e
      rw [b_sshr j hj u hi, if_pos (by omega)]
      rw [show j + 0 = j from rfl, h]
      rfl
    · rw [bn i hi (by omega), Bool.and_false]
theorem up_one : ∀ j, j < 32 → ∀ i, i < 32 → (decide (j ≤ i) && bt (nI 1) (i - j)) = decide (i = j) := by decide +kernel
theorem up_off {u : Int32} {i j : Nat} (hi : i < 32) (hj : j < 32) : bt (u &&& (((nI 1) <<< ((nI j) &&& 31)) ^^^ (-1))) i = (bt u i && !(decide (i = j))) := by
  rw [b_and, b_xor, b_m1 i hi, b_shl j hj _ hi, up_one j hj i hi, Bool.xor_true]
theorem up_on {u : Int32} {i j : Nat} (hi : i < 32) (hj : j < 32) : bt (u ||| ((nI 1) <<< ((nI j) &&& 31))) i = (bt u i || decide (i = j)) := by
  rw [b_or, b_shl j hj _ hi, up_one j hj i hi]
/-! ===== the law: both sides at once ===== -/
def nds (s : Nat) : Nat := match s with
  | 1 => 9
  | 2 => 12
  | _ => 3
def fst4 (s : Nat) : Nat := match s with
  | 0 => 0
  | 1 => 3
  | 2 => 12
  | _ => 24
/-- who is up for the class is not down for the model -/
def REL (u d : Nat → Int32) : Prop := ∀ s, s < 4 → ∀ j, j < nds s → (bt (u s) j = true ↔ d (fst4 s + j) = 0)
theorem REL_0 : REL Uup (fun _ => 0) := by
  intro s hs j hj
  refine ⟨fun _ => rfl, fun _ => ?_⟩
  have h : ∀ s, s < 4 → ∀ j, j < nds s → bt (Uup s) j = true := by decide +kernel
  exact h s hs j hj
theorem nds_12 {s : Nat} : nds s ≤ 12 := by
  unfold nds
  split <;> decide
theorem fst_inj : ∀ s, s < 4 → ∀ i, i < nds s → ∀ t, t < 4 → ∀ j, j < nds t → fst4 s + i = fst4 t + j → s = t ∧ i = j := by
  intro s hs i hi t ht j hj h
  rcases (by omega : s = 0 ∨ s = 1 ∨ s = 2 ∨ s = 3) with rfl | rfl | rfl | rfl <;> rcases (by omega : t = 0 ∨ t = 1 ∨ t = 2 ∨ t = 3) with rfl | rfl | rfl | rfl <;> simp only [nds] at hi hj <;> simp only [fst4] at h <;> omega
theorem fst_27 : ∀ s, s < 4 → ∀ i, i < nds s → fst4 s + i < 27 := by decide +kernel
theorem REL_up {U D : UT} {s j : Nat} {v w : Int32} (h : REL U.1 D.1) (hs : s < 4) (hj : j < nds s) (hv : ∀ i, i < nds s → (bt v i = true ↔ (i = j ∧ w = 0) ∨ (i ≠ j ∧ bt (U.1 s) i = true))) : REL (updU U s v).1 (updD D (fst4 s + j) w).1 := by
  intro t ht i hi
  show bt (if t = s then v else U.1 t) i = true ↔ (if fst4 t + i = fst4 s + j then w else D.1 (fst4 t + i)) = 0
  by_cases e : t = s
  · subst e
    rw [if_pos rfl]
    by_cases e2 : i = j
    · subst e2
      rw [if_pos rfl, hv i hi]
      exact ⟨fun k => k.elim (fun k => k.2) (fun k => absurd rfl k.1), fun k => Or.inl ⟨rfl, k⟩⟩
    · rw [if_neg (by omega), hv i hi, ← h t ht i hi]
      exact ⟨fun k => k.elim (fun k => absurd k.1 e2) (fun k => k.2), fun k => Or.inr ⟨e2, k⟩⟩
  · rw [if_neg e, if_neg (fun k => e (fst_inj t ht i hi s hs j hj k).1)]
    exact h t ht i hi
theorem RELoff {U D : UT} {s j : Nat} (h : REL U.1 D.1) (hs : s < 4) (hj : j < nds s) : REL (updU U s ((U.1 s) &&& (((nI 1) <<< ((nI j) &&& 31)) ^^^ (-1)))).1 (updD D (fst4 s + j) (nI 1)).1 := by
  refine REL_up h hs hj (fun i hi => ?_)
  have h1 := @nds_12 s
  rw [up_off (by omega) (by omega)]
  by_cases e : i = j
  · rw [decide_eq_true e, Bool.not_true, Bool.and_false]
    exact ⟨fun h => (by cases h), fun h => h.elim (fun h => absurd h.2 (by decide)) (fun h => absurd e h.1)⟩
  · rw [decide_eq_false e, Bool.not_false, Bool.and_true]
    exact ⟨fun h => Or.inr ⟨e, h⟩, fun h => h.elim (fun h => absurd h.1 e) (fun h => h.2)⟩
theorem RELon {U D : UT} {s j : Nat} (h : REL U.1 D.1) (hs : s < 4) (hj : j < nds s) : REL (updU U s ((U.1 s) ||| ((nI 1) <<< ((nI j) &&& 31)))).1 (updD D (fst4 s + j) (nI 0)).1 := by
  refine REL_up h hs hj (fun i hi => ?_)
  have h1 := @nds_12 s
  rw [up_on (by omega) (by omega)]
  by_cases e : i = j
  · rw [decide_eq_true e, Bool.or_true]
    exact ⟨fun _ => Or.inl ⟨e, by decide⟩, fun _ => rfl⟩
  · rw [decide_eq_false e, Bool.or_false]
    exact ⟨fun h => Or.inr ⟨e, h⟩, fun h => h.elim (fun h => absurd h.1 e) (fun h => h.2)⟩
def LB (h : GT) (x o s L : Nat) (xs u d : Nat → Int32) : Prop := INV x (u, h) h ∧ MI (x + 892) (d, h) 402 (fun _ => False) h ∧ (gx_K h o = 51 ∧ gx_N h o = 1) ∧ (s < x ∧ x + 952 ≤ o) ∧ (gx_K h s = 60 ∧ gx_N h s = L) ∧ ∀ j, j < L → gx_A h s j = xs j
/-- the class has done something -/
theorem LB_c {h h' : GT} {x o s L : Nat} {xs u d u' : Nat → Int32} (w : LB h x o s L xs u d) (I : INV x (u', h) h') : LB h' x o s L xs u' d := by
  obtain ⟨w1, w2, ⟨w4, w5⟩, ⟨w6, w7⟩, ⟨w8, w9⟩, w10⟩ := w
  have k := INV_fr I
  have ko := k o (fun q => by have := q.2; omega)
  have ks := k s (fun q => by have := q.1; omega)
  exact ⟨INV_re I, KFr_MI w2 k, ⟨ko.1.trans w4, ko.2.1.trans w5⟩, ⟨w6, w7⟩, ⟨ks.1.trans w8, ks.2.1.trans w9⟩, fun j hj => (ks.2.2.2.2.1 j).trans (w10 j hj)⟩
/-- the model has done something -/
theorem LB_m {h h' : GT} {x o s L : Nat} {xs u d d' : Nat → Int32} (w : LB h x o s L xs u d) (I : MI (x + 892) (d', h) 402 (fun _ => False) h') : LB h' x o s L xs u d' := by
  obtain ⟨w1, w2, ⟨w4, w5⟩, ⟨w6, w7⟩, ⟨w8, w9⟩, w10⟩ := w
  have k := MI_fr I
  have ko := k o (fun q => by have := q.2; omega)
  have ks := k s (fun q => by have := q.1; omega)
  exact ⟨KFm_INV w1 k, MI_re I, ⟨ko.1.trans w4, ko.2.1.trans w5⟩, ⟨w6, w7⟩, ⟨ks.1.trans w8, ks.2.1.trans w9⟩, fun j hj => (ks.2.2.2.2.1 j).trans (w10 j hj)⟩
theorem LB_L {h : GT} {x o s L i : Nat} {xs u d : Nat → Int32} {v : Int64} (w : LB h x o s L xs u d) : LB (px_L h o i v) x o s L xs u d := by
  obtain ⟨⟨i1, i2, i3, i4, i5, i6, i7, i8, i9, -⟩, ⟨A, a1, a2, c1, c2, c3, c4, c5, c6, -⟩, w4, w5, w6, w10⟩ := w
  exact ⟨⟨i1, i2, i3, i4, i5, i6, i7, i8, i9, KFr.refl⟩, ⟨A, a1, a2, c1, c2, c3, c4, c5, c6, KFm.refl⟩, w4, w5, w6, w10⟩
section EL
variable {G : GE} {d mc ms : Nat} {M : MT} {pc : Nat} {ls : List (Nat × Value)} {st stk : List Value} {g : GT} {Q : RT → GT → Prop}
theorem ex_callVHs {idx n t d1 mc1 ms1 b : Nat} {y : MethodName} {As : List Value} {Q1 : RT → GT → Prop} (hM : mt_ok M = true) (hf : mt_in M pc (.invokevirtual idx) 3) (hp : (mt_m M).lookup idx = some (y, n, t, d1, mc1, ms1)) (hcall : ex_M G d1 mc1 ms1 y (.ref b :: As) g Q1) (hs : stk = As.reverse ++ .ref b :: st) (ht : 10 ≤ t) (hd : d1 < d) (hlen : As.length = n)
    (hk : gx_K g b = t - 10 + 1) (hcat : (st.map fun v => v.category).sum ≤ 8) (hm : mc1 ≤ mc ∧ ms1 ≤ ms)
    (k1 : ∀ v g', Q1 (.inl v) g' → ex_W G d (mc - mc1) (ms - ms1) M (pc + 3) ls (v.toList ++ st) g' Q)
    (k2 : ∀ E g', Q1 (.inr E) g' → ∃ e1 pre x suf, E = cx_E e1 ∧ hx_ok M pc e1 pre x suf = true ∧ ∀ q : Nat, ex_W G d (mc - mc1) (ms - ms1) M x.2.2.1 ls [.ref q] g' Q) : ex_W G d mc ms M pc ls stk g Q := by
  rw [hs]
  exact ex_callVH hM hf hp ht hd hlen hk hcat hm hcall k1 k2
theorem ex_callSHs {idx n d1 mc1 ms1 : Nat} {y : MethodName} {As : List Value} {P1 : Option Value → GT → Prop} (hM : mt_ok M = true) (hf : mt_in M pc (.invokestatic idx) 3) (hp : (mt_m M).lookup idx = some (y, n, 1, d1, mc1, ms1)) (hcall : ex_MH G d1 mc1 ms1 y As g (fun r h' => ∃ v, r = .inl v ∧ P1 v h')) (hs : stk = As.reverse ++ st) (hh : mt_h M = []) (hlen : As.length = n) (hd : d1 < d)
    (hcat : (st.map fun v => v.category).sum ≤ 8) (hm : mc1 ≤ mc ∧ ms1 ≤ ms) (k : ∀ v g', P1 v g' → ex_W G d (mc - mc1) (ms - ms1) M (pc + 3) ls (v.toList ++ st) g' Q) : ex_W G d mc ms M pc ls stk g Q := by
  rw [hs]
  refine ex_callSH hM hf hp hh hd hlen hcat hm hcall (fun v g' h => ?_) (fun E g' h => ?_)
  · obtain ⟨v', h1, h2⟩ := h
    cases h1
    exact k _ _ h2
  · obtain ⟨v', h1, h2⟩ := h
    cases h1
/-- a cell of ours lies below the heap's end -/
theorem ex_lt (k : (∀ a, gx_K g a ≠ 0 → a < gx_Z g) → ex_W G d mc ms M pc ls st g Q) : ex_W G d mc ms M pc ls st g Q :=
  fun p e R s m args below meth c H locs cells slots MC MS L h1 h2 h3 h4 h5 h6 => k (fun a ha => (h4.2.2.1 a ha).1) p e R s m args below meth c H locs cells slots MC MS L h1 h2 h3 h4 h5 h6
end EL
/-- what a helper of the law leaves -/
def LH (x o s L : Nat) (xs u d : Nat → Int32) : Option Value → GT → Prop := fun z h => (∃ k : Int32, z = some (.int k)) ∧ LB h x o s L xs u d
/-- cells of the class as they were -/
theorem INV_sm {x : Nat} {U : UT} {g g1 : GT} (I : INV x U g) (k : ∀ b, x ≤ b ∧ b < x + 892 → sm g g1 b) : INV x (U.1, g1) g1 := by
  have hb : ∀ o, o < 892 → x ≤ x + o ∧ x + o < x + 892 := fun o ho => ⟨by omega, by omega⟩
  have hs : ∀ (T : List (Nat × Nat × Nat) × List (Nat × Nat × Nat)) (o : Nat), T.1.all (fun q => (o + q.1).blt 892) = true → T.2.all (fun q => (o + q.1).blt 892) = true → sh T g (x + o) → sh T g1 (x + o) := fun T o b1 b2 h => by
    refine ⟨fun q hq => ?_, fun q hq => ?_⟩
    · have := k (x + (o + q.1)) (hb _ (Nat.blt_eq.mp (List.all_eq_true.mp b1 q hq)))
      rw [← Nat.add_assoc] at this
      exact ⟨this.1.trans (h.1 q hq).1, this.2.1.trans (h.1 q hq).2⟩
    · have := k (x + (o + q.1)) (hb _ (Nat.blt_eq.mp (List.all_eq_true.mp b2 q hq)))
      rw [← Nat.add_assoc] at this
      exact (this.2.2.2.1 _).trans (h.2 q hq)
  obtain ⟨i1, i2, i3, i4, i5, i6, i7, i8, i9⟩ := I
  refine ⟨hs T11b 0 (by decide +kernel) (by decide +kernel) i1, fun q hq => ?_, fun j hj => ?_, fun i hi => ?_, ?_, ?_, ?_, fun j hj => ?_, fun q hq => ?_, KFr.refl⟩
  · have b := Nat.blt_eq.mp (List.all_eq_true.mp (show O11.all (fun q => q.1.blt 892) = true by decide +kernel) q hq)
    exact ((k (x + q.1) (hb _ b)).2.2.2.2.2.2 _).trans (i2 q hq)
  · have hq : ∀ o, o < 2 → x ≤ x + 3 + 2 * j + o ∧ x + 3 + 2 * j + o < x + 892 := fun o ho => ⟨by omega, by omega⟩
    have := i3 j hj
    refine ⟨fun q hq2 => ?_, fun q hq2 => ?_⟩
    · have b := Nat.blt_eq.mp (List.all_eq_true.mp (show T6.1.all (fun q => q.1.blt 2) = true by decide +kernel) q hq2)
      have c := k (x + 3 + 2 * j + q.1) (hq _ b)
      exact ⟨c.1.trans (this.1 q hq2).1, c.2.1.trans (this.1 q hq2).2⟩
    · have b := Nat.blt_eq.mp (List.all_eq_true.mp (show T6.2.all (fun q => q.1.blt 2) = true by decide +kernel) q hq2)
      exact ((k (x + 3 + 2 * j + q.1) (hq _ b)).2.2.2.1 _).trans (this.2 q hq2)
  · rw [(k (x + 2) (hb 2 (by decide))).2.2.2.2.2.2 i]; exact i4 i hi
  · rw [(k (x + 1) (hb 1 (by decide))).2.2.2.1 1]; exact i5
  · rw [(k (x + 1) (hb 1 (by decide))).2.2.1 3]; exact i6
  · rw [(k (x + 1) (hb 1 (by decide))).2.2.1 4]; exact i7
  · rw [(k (x + 813) (hb 813 (by decide))).2.2.2.2.1 j]; exact i8 j hj
  · have b := Nat.blt_eq.mp (List.all_eq_true.mp (show I11.all (fun q => q.1.blt 892) = true by decide +kernel) q hq)
    exact ((k (x + q.1) (hb _ b)).2.2.1 _).trans (i9.1 q hq)
theorem MI_sm {y c : Nat} {D : UT} {R : Nat → Prop} {g g1 : GT} (I : MI y D c R g) (k : ∀ b, y ≤ b ∧ b < y + 60 → sm g g1 b) : MI y (D.1, g1) c R g1 := by
  have hA : ∀ o, o < 60 → ∀ j, gx_A g1 (y + o) j = gx_A g (y + o) j := fun o ho j => (k (y + o) ⟨by omega, by omega⟩).2.2.2.2.1 j
  obtain ⟨A, a1, a2, h1, h2, h3, h4, h5, h6, h7⟩ := I
  refine ⟨A, a1, ((k y ⟨by omega, by omega⟩).2.2.1 1248).trans a2, ⟨fun q hq => ?_, fun q hq => ?_⟩, fun q hq i hi => ?_, fun l hl q => ?_, fun j hj q => ?_, fun i hi => ?_, fun j hj q => ?_, KFm.refl⟩
  · have b := Nat.blt_eq.mp (List.all_eq_true.mp (show T12.1.all (fun q => q.1.blt 60) = true by decide +kernel) q hq)
    have := k (y + q.1) ⟨by omega, by omega⟩
    exact ⟨this.1.trans (h1.1 q hq).1, this.2.1.trans (h1.1 q hq).2⟩
  · have b := Nat.blt_eq.mp (List.all_eq_true.mp (show T12.2.all (fun q => q.1.blt 60) = true by decide +kernel) q hq)
    have := k (y + q.1) ⟨by omega, by omega⟩
    exact (this.2.2.2.1 _).trans (h1.2 q hq)
  · rw [hA q.1 (Nat.blt_eq.mp (List.all_eq_true.mp (show BMt.all (fun q => q.1.blt 60) = true by decide) q hq))]; exact h2 q hq i hi
  · rw [hA 3 (by decide)]
    rw [hA 2 (by decide)] at q
    exact h3 l hl q
  · obtain ⟨κ, m, hk, hm⟩ := h4 j hj q
    exact ⟨κ, m, hk, MK_q hm (fun c _ c2 i => hA c (by omega) i)⟩
  · rw [hA 1 (by decide)]; exact h5 i hi
  · rw [hA 49 (by decide)] at q
    rcases h6 j hj q with c | ⟨p, p1, p2, p3⟩
    · exact Or.inl c
    · exact Or.inr ⟨p, p1, p2, by rw [hA 48 (by decide)]; exact p3⟩
theorem l_begin {G : GE} (hst : (ge_l G).stackTraces = false) {x o s L : Nat} {xs u d : Nat → Int32} {h : GT} {p0 p1 p2 : Int32} (w : LB h x o s L xs u d) : ex_MH G 8 4 24 my_L_begin [.ref x, .int p0, .int p1, .int p2, .ref o] h (fun r h' => ∃ z, r = .inl z ∧ LH x o s L xs u d z h') := by
  refine ex_MH_of ok_L_begin cw_L_begin hst (Nat.le_of_ble_eq_true rfl) ?_
  refine ex_aload ok_L_begin (mi 0 rfl) rfl ?_
  refine ex_iconst ok_L_begin (mi 1 rfl) ?_
  refine ex_aload_n ok_L_begin (mi 2 rfl) rfl ?_
  refine ex_iload_n ok_L_begin (mi 3 rfl) rfl ?_
  refine ex_iload_n ok_L_begin (mi 4 rfl) rfl ?_
  refine ex_iload_n ok_L_begin (mi 5 rfl) rfl ?_
  refine ex_callVHs (As := [_, _, _]) ok_L_begin (mi 6 rfl) rfl (s_X11_begin hst w.1) rfl (by decide) (by decide) rfl (fk w.1.1 0 rfl) (Nat.le_of_ble_eq_true rfl) (by decide) (fun v' g' q => ?_) (fun E' g' q => ?_)
  · obtain ⟨q1 | q1, q2⟩ := q
    · have w1 := LB_c w q2
      obtain ⟨v1, e1, i1, rfl⟩ := q1
      cases e1
      refine ex_i2l ok_L_begin (mi 7 rfl) ?_
      refine ex_last ok_L_begin (mi 8 rfl) w1.2.2.1.1 (by rw [w1.2.2.1.2]; exact pk_in 0 1 (by decide)) ?_
      refine ex_goto (tgt := 27) ok_L_begin (mi 9 rfl) rfl ?_
      refine ex_iconst ok_L_begin (mi 19 rfl) ?_
      refine ex_iret ok_L_begin (mi 20 rfl) rfl ?_
      exact ⟨_, rfl, ⟨_, rfl⟩, LB_L w1⟩
    · obtain ⟨e1, he, q1⟩ := q1
      cases q1
  · obtain ⟨q1 | q1, q2⟩ := q
    · obtain ⟨v1, e1, -⟩ := q1
      cases e1
    · obtain ⟨e1, he, q1⟩ := q1
      have w1 := LB_c w q2
      simp only [List.mem_cons, List.not_mem_nil, or_false] at he
      rcases he with rfl | rfl | rfl
      · skip
        refine ⟨100, [], (0, 12, 15, 13), [(0, 12, 19, 15), (0, 12, 23, 17)], by cases q1; rfl, by decide +kernel, fun q => ?_⟩
        refine ex_astore ok_L_begin (mi 10 rfl) ?_
        refine ex_iconst ok_L_begin (mi 11 rfl) ?_
        refine ex_iret ok_L_begin (mi 12 rfl) rfl ?_
        exact ⟨_, rfl, ⟨_, rfl⟩, w1⟩
      · skip
        refine ⟨101, [((0, 12, 15, 13), 100)], (0, 12, 19, 15), [(0, 12, 23, 17)], by cases q1; rfl, by decide +kernel, fun q => ?_⟩
        refine ex_astore ok_L_begin (mi 13 rfl) ?_
        refine ex_iconst ok_L_begin (mi 14 rfl) ?_
        refine ex_iret ok_L_begin (mi 15 rfl) rfl ?_
        exact ⟨_, rfl, ⟨_, rfl⟩, w1⟩
      · skip
        refine ⟨102, [((0, 12, 15, 13), 100), ((0, 12, 19, 15), 101)], (0, 12, 23, 17), [], by cases q1; rfl, by decide +kernel, fun q => ?_⟩
        refine ex_astore ok_L_begin (mi 16 rfl) ?_
        refine ex_iconst ok_L_begin (mi 17 rfl) ?_
        refine ex_iret ok_L_begin (mi 18 rfl) rfl ?_
        exact ⟨_, rfl, ⟨_, rfl⟩, w1⟩
theorem l_propose {G : GE} (hst : (ge_l G).stackTraces = false) {x o s L : Nat} {xs u d : Nat → Int32} {h : GT} {p0 p1 : Int32} (w : LB h x o s L xs u d) : ex_MH G 5 4 24 my_L_propose [.ref x, .int p0, .int p1, .ref o] h (fun r h' => ∃ z, r = .inl z ∧ LH x o s L xs u d z h') := by
  refine ex_MH_of ok_L_propose cw_L_propose hst (Nat.le_of_ble_eq_true rfl) ?_
  refine ex_aload_n ok_L_propose (mi 0 rfl) rfl ?_
  refine ex_iconst ok_L_propose (mi 1 rfl) ?_
  refine ex_aload_n ok_L_propose (mi 2 rfl) rfl ?_
  refine ex_iload_n ok_L_propose (mi 3 rfl) rfl ?_
  refine ex_iload_n ok_L_propose (mi 4 rfl) rfl ?_
  refine ex_callVHs (As := [_, _]) ok_L_propose (mi 5 rfl) rfl (s_X11_propose hst w.1) rfl (by decide) (by decide) rfl (fk w.1.1 0 rfl) (Nat.le_of_ble_eq_true rfl) (by decide) (fun v' g' q => ?_) (fun E' g' q => ?_)
  · obtain ⟨q1 | q1, q2⟩ := q
    · have w1 := LB_c w q2
      obtain ⟨v1, e1, i1, rfl⟩ := q1
      cases e1
      refine ex_i2l ok_L_propose (mi 6 rfl) ?_
      refine ex_last ok_L_propose (mi 7 rfl) w1.2.2.1.1 (by rw [w1.2.2.1.2]; exact pk_in 0 1 (by decide)) ?_
      refine ex_goto (tgt := 25) ok_L_propose (mi 8 rfl) rfl ?_
      refine ex_iconst ok_L_propose (mi 18 rfl) ?_
      refine ex_iret ok_L_propose (mi 19 rfl) rfl ?_
      exact ⟨_, rfl, ⟨_, rfl⟩, LB_L w1⟩
    · obtain ⟨e1, he, q1⟩ := q1
      cases q1
  · obtain ⟨q1 | q1, q2⟩ := q
    · obtain ⟨v1, e1, -⟩ := q1
      cases e1
    · obtain ⟨e1, he, q1⟩ := q1
      have w1 := LB_c w q2
      simp only [List.mem_cons, List.not_mem_nil, or_false] at he
      rcases he with rfl | rfl | rfl
      · skip
        refine ⟨100, [], (0, 10, 13, 13), [(0, 10, 17, 15), (0, 10, 21, 17)], by cases q1; rfl, by decide +kernel, fun q => ?_⟩
        refine ex_astore ok_L_propose (mi 9 rfl) ?_
        refine ex_iconst ok_L_propose (mi 10 rfl) ?_
        refine ex_iret ok_L_propose (mi 11 rfl) rfl ?_
        exact ⟨_, rfl, ⟨_, rfl⟩, w1⟩
      · skip
        refine ⟨101, [((0, 10, 13, 13), 100)], (0, 10, 17, 15), [(0, 10, 21, 17)], by cases q1; rfl, by decide +kernel, fun q => ?_⟩
        refine ex_astore ok_L_propose (mi 12 rfl) ?_
        refine ex_iconst ok_L_propose (mi 13 rfl) ?_
        refine ex_iret ok_L_propose (mi 14 rfl) rfl ?_
        exact ⟨_, rfl, ⟨_, rfl⟩, w1⟩
      · skip
        refine ⟨102, [((0, 10, 13, 13), 100), ((0, 10, 17, 15), 101)], (0, 10, 21, 17), [], by cases q1; rfl, by decide +kernel, fun q => ?_⟩
        refine ex_astore ok_L_propose (mi 15 rfl) ?_
        refine ex_iconst ok_L_propose (mi 16 rfl) ?_
        refine ex_iret ok_L_propose (mi 17 rfl) rfl ?_
        exact ⟨_, rfl, ⟨_, rfl⟩, w1⟩
theorem l_collect {G : GE} (hst : (ge_l G).stackTraces = false) {x o s L : Nat} {xs u d : Nat → Int32} {h : GT} {p0 : Int32} (w : LB h x o s L xs u d) : ex_MH G 5 4 24 my_L_collect [.ref x, .int p0, .ref o] h (fun r h' => ∃ z, r = .inl z ∧ LH x o s L xs u d z h') := by
  refine ex_MH_of ok_L_collect cw_L_collect hst (Nat.le_of_ble_eq_true rfl) ?_
  refine ex_aload_n ok_L_collect (mi 0 rfl) rfl ?_
  refine ex_iconst ok_L_collect (mi 1 rfl) ?_
  refine ex_aload_n ok_L_collect (mi 2 rfl) rfl ?_
  refine ex_iload_n ok_L_collect (mi 3 rfl) rfl ?_
  refine ex_callVHs (As := [_]) ok_L_collect (mi 4 rfl) rfl (s_X11_collect hst w.1) rfl (by decide) (by decide) rfl (fk w.1.1 0 rfl) (Nat.le_of_ble_eq_true rfl) (by decide) (fun v' g' q => ?_) (fun E' g' q => ?_)
  · obtain ⟨q1 | q1, q2⟩ := q
    · have w1 := LB_c w q2
      obtain ⟨v1, e1, i1, rfl, hb⟩ := q1
      cases e1
      refine ex_if_eq (tgt := 14) ok_L_collect (mi 5 rfl) rfl (fun _ => ?_) (fun _ => ?_)
      · skip
        refine ex_lconst ok_L_collect (mi 8 rfl) ?_
        refine ex_last ok_L_collect (mi 9 rfl) w1.2.2.1.1 (by rw [w1.2.2.1.2]; exact pk_in 0 1 (by decide)) ?_
        refine ex_goto (tgt := 25) ok_L_collect (mi 10 rfl) rfl ?_
        refine ex_iconst ok_L_collect (mi 17 rfl) ?_
        refine ex_iret ok_L_collect (mi 18 rfl) rfl ?_
        exact ⟨_, rfl, ⟨_, rfl⟩, LB_L w1⟩
      · skip
        refine ex_lconst ok_L_collect (mi 6 rfl) ?_
        refine ex_goto (tgt := 15) ok_L_collect (mi 7 rfl) rfl ?_
        refine ex_last ok_L_collect (mi 9 rfl) w1.2.2.1.1 (by rw [w1.2.2.1.2]; exact pk_in 0 1 (by decide)) ?_
        refine ex_goto (tgt := 25) ok_L_collect (mi 10 rfl) rfl ?_
        refine ex_iconst ok_L_collect (mi 17 rfl) ?_
        refine ex_iret ok_L_collect (mi 18 rfl) rfl ?_
        exact ⟨_, rfl, ⟨_, rfl⟩, LB_L w1⟩
    · obtain ⟨e1, he, q1⟩ := q1
      cases q1
  · obtain ⟨q1 | q1, q2⟩ := q
    · obtain ⟨v1, e1, -⟩ := q1
      cases e1
    · obtain ⟨e1, he, q1⟩ := q1
      have w1 := LB_c w q2
      simp only [List.mem_cons, List.not_mem_nil, or_false] at he
      rcases he with rfl | rfl
      · skip
        refine ⟨100, [], (0, 16, 19, 13), [(0, 16, 22, 17)], by cases q1; rfl, by decide +kernel, fun q => ?_⟩
        refine ex_astore_n ok_L_collect (mi 11 rfl) ?_
        refine ex_iconst ok_L_collect (mi 12 rfl) ?_
        refine ex_iret ok_L_collect (mi 13 rfl) rfl ?_
        exact ⟨_, rfl, ⟨_, rfl⟩, w1⟩
      · skip
        refine ⟨102, [((0, 16, 19, 13), 100)], (0, 16, 22, 17), [], by cases q1; rfl, by decide +kernel, fun q => ?_⟩
        refine ex_astore_n ok_L_collect (mi 14 rfl) ?_
        refine ex_iconst ok_L_collect (mi 15 rfl) ?_
        refine ex_iret ok_L_collect (mi 16 rfl) rfl ?_
        exact ⟨_, rfl, ⟨_, rfl⟩, w1⟩
theorem l_reform {G : GE} (hst : (ge_l G).stackTraces = false) {x o s L : Nat} {xs u d : Nat → Int32} {h : GT} {p0 p1 p2 : Int32} (w : LB h x o s L xs u d) : ex_MH G 7 4 24 my_L_reform [.ref x, .int p0, .int p1, .int p2, .ref o] h (fun r h' => ∃ z, r = .inl z ∧ LH x o s L xs u d z h') := by
  refine ex_MH_of ok_L_reform cw_L_reform hst (Nat.le_of_ble_eq_true rfl) ?_
  refine ex_aload ok_L_reform (mi 0 rfl) rfl ?_
  refine ex_iconst ok_L_reform (mi 1 rfl) ?_
  refine ex_aload_n ok_L_reform (mi 2 rfl) rfl ?_
  refine ex_iload_n ok_L_reform (mi 3 rfl) rfl ?_
  refine ex_iload_n ok_L_reform (mi 4 rfl) rfl ?_
  refine ex_iload_n ok_L_reform (mi 5 rfl) rfl ?_
  refine ex_callVHs (As := [_, _, _]) ok_L_reform (mi 6 rfl) rfl (s_X11_reform hst w.1) rfl (by decide) (by decide) rfl (fk w.1.1 0 rfl) (Nat.le_of_ble_eq_true rfl) (by decide) (fun v' g' q => ?_) (fun E' g' q => ?_)
  · obtain ⟨q1 | q1, q2⟩ := q
    · have w1 := LB_c w q2
      obtain ⟨v1, e1, i1, rfl⟩ := q1
      cases e1
      refine ex_i2l ok_L_reform (mi 7 rfl) ?_
      refine ex_last ok_L_reform (mi 8 rfl) w1.2.2.1.1 (by rw [w1.2.2.1.2]; exact pk_in 0 1 (by decide)) ?_
      refine ex_goto (tgt := 27) ok_L_reform (mi 9 rfl) rfl ?_
      refine ex_iconst ok_L_reform (mi 19 rfl) ?_
      refine ex_iret ok_L_reform (mi 20 rfl) rfl ?_
      exact ⟨_, rfl, ⟨_, rfl⟩, LB_L w1⟩
    · obtain ⟨e1, he, q1⟩ := q1
      cases q1
  · obtain ⟨q1 | q1, q2⟩ := q
    · obtain ⟨v1, e1, -⟩ := q1
      cases e1
    · obtain ⟨e1, he, q1⟩ := q1
      have w1 := LB_c w q2
      simp only [List.mem_cons, List.not_mem_nil, or_false] at he
      rcases he with rfl | rfl | rfl
      · skip
        refine ⟨100, [], (0, 12, 15, 13), [(0, 12, 19, 15), (0, 12, 23, 17)], by cases q1; rfl, by decide +kernel, fun q => ?_⟩
        refine ex_astore ok_L_reform (mi 10 rfl) ?_
        refine ex_iconst ok_L_reform (mi 11 rfl) ?_
        refine ex_iret ok_L_reform (mi 12 rfl) rfl ?_
        exact ⟨_, rfl, ⟨_, rfl⟩, w1⟩
      · skip
        refine ⟨101, [((0, 12, 15, 13), 100)], (0, 12, 19, 15), [(0, 12, 23, 17)], by cases q1; rfl, by decide +kernel, fun q => ?_⟩
        refine ex_astore ok_L_reform (mi 13 rfl) ?_
        refine ex_iconst ok_L_reform (mi 14 rfl) ?_
        refine ex_iret ok_L_reform (mi 15 rfl) rfl ?_
        exact ⟨_, rfl, ⟨_, rfl⟩, w1⟩
      · skip
        refine ⟨102, [((0, 12, 15, 13), 100), ((0, 12, 19, 15), 101)], (0, 12, 23, 17), [], by cases q1; rfl, by decide +kernel, fun q => ?_⟩
        refine ex_astore ok_L_reform (mi 16 rfl) ?_
        refine ex_iconst ok_L_reform (mi 17 rfl) ?_
        refine ex_iret ok_L_reform (mi 18 rfl) rfl ?_
        exact ⟨_, rfl, ⟨_, rfl⟩, w1⟩
theorem l_again {G : GE} (hst : (ge_l G).stackTraces = false) {x o s L : Nat} {xs u d : Nat → Int32} {h : GT} {p0 : Int32} (w : LB h x o s L xs u d) : ex_MH G 6 4 24 my_L_again [.ref x, .int p0, .ref o] h (fun r h' => ∃ z, r = .inl z ∧ LH x o s L xs u d z h') := by
  refine ex_MH_of ok_L_again cw_L_again hst (Nat.le_of_ble_eq_true rfl) ?_
  refine ex_aload_n ok_L_again (mi 0 rfl) rfl ?_
  refine ex_iconst ok_L_again (mi 1 rfl) ?_
  refine ex_aload_n ok_L_again (mi 2 rfl) rfl ?_
  refine ex_iload_n ok_L_again (mi 3 rfl) rfl ?_
  refine ex_callVHs (As := [_]) ok_L_again (mi 4 rfl) rfl (s_X11_again hst w.1) rfl (by decide) (by decide) rfl (fk w.1.1 0 rfl) (Nat.le_of_ble_eq_true rfl) (by decide) (fun v' g' q => ?_) (fun E' g' q => ?_)
  · obtain ⟨q1 | q1, q2⟩ := q
    · have w1 := LB_c w q2
      obtain ⟨v1, e1, i1, rfl⟩ := q1
      cases e1
      refine ex_i2l ok_L_again (mi 5 rfl) ?_
      refine ex_last ok_L_again (mi 6 rfl) w1.2.2.1.1 (by rw [w1.2.2.1.2]; exact pk_in 0 1 (by decide)) ?_
      refine ex_goto (tgt := 18) ok_L_again (mi 7 rfl) rfl ?_
      refine ex_iconst ok_L_again (mi 14 rfl) ?_
      refine ex_iret ok_L_again (mi 15 rfl) rfl ?_
      exact ⟨_, rfl, ⟨_, rfl⟩, LB_L w1⟩
    · obtain ⟨e1, he, q1⟩ := q1
      cases q1
  · obtain ⟨q1 | q1, q2⟩ := q
    · obtain ⟨v1, e1, -⟩ := q1
      cases e1
    · obtain ⟨e1, he, q1⟩ := q1
      have w1 := LB_c w q2
      simp only [List.mem_cons, List.not_mem_nil, or_false] at he
      rcases he with rfl | rfl
      · skip
        refine ⟨100, [], (0, 9, 12, 13), [(0, 9, 15, 17)], by cases q1; rfl, by decide +kernel, fun q => ?_⟩
        refine ex_astore_n ok_L_again (mi 8 rfl) ?_
        refine ex_iconst ok_L_again (mi 9 rfl) ?_
        refine ex_iret ok_L_again (mi 10 rfl) rfl ?_
        exact ⟨_, rfl, ⟨_, rfl⟩, w1⟩
      · skip
        refine ⟨102, [((0, 9, 12, 13), 100)], (0, 9, 15, 17), [], by cases q1; rfl, by decide +kernel, fun q => ?_⟩
        refine ex_astore_n ok_L_again (mi 11 rfl) ?_
        refine ex_iconst ok_L_again (mi 12 rfl) ?_
        refine ex_iret ok_L_again (mi 13 rfl) rfl ?_
        exact ⟨_, rfl, ⟨_, rfl⟩, w1⟩
theorem l_deliver {G : GE} (hst : (ge_l G).stackTraces = false) {x o s L : Nat} {xs u d : Nat → Int32} {h : GT} {p0 : Int32} (w : LB h x o s L xs u d) : ex_MH G 9 4 24 my_L_deliver [.ref x, .int p0, .ref o] h (fun r h' => ∃ z, r = .inl z ∧ LH x o s L xs u d z h') := by
  refine ex_MH_of ok_L_deliver cw_L_deliver hst (Nat.le_of_ble_eq_true rfl) ?_
  refine ex_aload_n ok_L_deliver (mi 0 rfl) rfl ?_
  refine ex_iconst ok_L_deliver (mi 1 rfl) ?_
  refine ex_aload_n ok_L_deliver (mi 2 rfl) rfl ?_
  refine ex_iload_n ok_L_deliver (mi 3 rfl) rfl ?_
  refine ex_callVHs (As := [_]) ok_L_deliver (mi 4 rfl) rfl (s_X11_deliver hst w.1) rfl (by decide) (by decide) rfl (fk w.1.1 0 rfl) (Nat.le_of_ble_eq_true rfl) (by decide) (fun v' g' q => ?_) (fun E' g' q => ?_)
  · obtain ⟨q1 | q1, q2⟩ := q
    · have w1 := LB_c w q2
      obtain ⟨v1, e1, i1, rfl⟩ := q1
      cases e1
      refine ex_i2l ok_L_deliver (mi 5 rfl) ?_
      refine ex_last ok_L_deliver (mi 6 rfl) w1.2.2.1.1 (by rw [w1.2.2.1.2]; exact pk_in 0 1 (by decide)) ?_
      refine ex_goto (tgt := 15) ok_L_deliver (mi 7 rfl) rfl ?_
      refine ex_iconst ok_L_deliver (mi 11 rfl) ?_
      refine ex_iret ok_L_deliver (mi 12 rfl) rfl ?_
      exact ⟨_, rfl, ⟨_, rfl⟩, LB_L w1⟩
    · obtain ⟨e1, he, q1⟩ := q1
      cases q1
  · obtain ⟨q1 | q1, q2⟩ := q
    · obtain ⟨v1, e1, -⟩ := q1
      cases e1
    · obtain ⟨e1, he, q1⟩ := q1
      have w1 := LB_c w q2
      simp only [List.mem_cons, List.not_mem_nil, or_false] at he
      subst he
      refine ⟨100, [], (0, 9, 12, 13), [], by cases q1; rfl, by decide +kernel, fun q => ?_⟩
      refine ex_astore_n ok_L_deliver (mi 8 rfl) ?_
      refine ex_iconst ok_L_deliver (mi 9 rfl) ?_
      refine ex_iret ok_L_deliver (mi 10 rfl) rfl ?_
      exact ⟨_, rfl, ⟨_, rfl⟩, w1⟩
theorem l_run {G : GE} (hst : (ge_l G).stackTraces = false) {x o s L : Nat} {xs u d : Nat → Int32} {h : GT} {p0 : Int32} (w : LB h x o s L xs u d) : ex_MH G 9 4 24 my_L_run [.ref x, .int p0, .ref o] h (fun r h' => ∃ z, r = .inl z ∧ LH x o s L xs u d z h') := by
  refine ex_MH_of ok_L_run cw_L_run hst (Nat.le_of_ble_eq_true rfl) ?_
  refine ex_aload_n ok_L_run (mi 0 rfl) rfl ?_
  refine ex_iconst ok_L_run (mi 1 rfl) ?_
  refine ex_aload_n ok_L_run (mi 2 rfl) rfl ?_
  refine ex_iload_n ok_L_run (mi 3 rfl) rfl ?_
  refine ex_callVHs (As := [_]) ok_L_run (mi 4 rfl) rfl (s_X11_run hst w.1) rfl (by decide) (by decide) rfl (fk w.1.1 0 rfl) (Nat.le_of_ble_eq_true rfl) (by decide) (fun v' g' q => ?_) (fun E' g' q => ?_)
  · obtain ⟨q1 | q1, q2⟩ := q
    · have w1 := LB_c w q2
      obtain ⟨v1, e1, i1, rfl⟩ := q1
      cases e1
      refine ex_i2l ok_L_run (mi 5 rfl) ?_
      refine ex_last ok_L_run (mi 6 rfl) w1.2.2.1.1 (by rw [w1.2.2.1.2]; exact pk_in 0 1 (by decide)) ?_
      refine ex_goto (tgt := 15) ok_L_run (mi 7 rfl) rfl ?_
      refine ex_iconst ok_L_run (mi 11 rfl) ?_
      refine ex_iret ok_L_run (mi 12 rfl) rfl ?_
      exact ⟨_, rfl, ⟨_, rfl⟩, LB_L w1⟩
    · obtain ⟨e1, he, q1⟩ := q1
      cases q1
  · obtain ⟨q1 | q1, q2⟩ := q
    · obtain ⟨v1, e1, -⟩ := q1
      cases e1
    · obtain ⟨e1, he, q1⟩ := q1
      have w1 := LB_c w q2
      simp only [List.mem_cons, List.not_mem_nil, or_false] at he
      subst he
      refine ⟨101, [], (0, 9, 12, 15), [], by cases q1; rfl, by decide +kernel, fun q => ?_⟩
      refine ex_astore_n ok_L_run (mi 8 rfl) ?_
      refine ex_iconst ok_L_run (mi 9 rfl) ?_
      refine ex_iret ok_L_run (mi 10 rfl) rfl ?_
      exact ⟨_, rfl, ⟨_, rfl⟩, w1⟩
theorem l_lose {G : GE} (hst : (ge_l G).stackTraces = false) {x o s L : Nat} {xs u d : Nat → Int32} {h : GT} {p0 : Int32} (w : LB h x o s L xs u d) : ex_MH G 4 4 24 my_L_lose [.ref x, .int p0, .ref o] h (fun r h' => ∃ z, r = .inl z ∧ LH x o s L xs u d z h') := by
  refine ex_MH_of ok_L_lose cw_L_lose hst (Nat.le_of_ble_eq_true rfl) ?_
  refine ex_aload_n ok_L_lose (mi 0 rfl) rfl ?_
  refine ex_iconst ok_L_lose (mi 1 rfl) ?_
  refine ex_aload_n ok_L_lose (mi 2 rfl) rfl ?_
  refine ex_iload_n ok_L_lose (mi 3 rfl) rfl ?_
  refine ex_callVHs (As := [_]) ok_L_lose (mi 4 rfl) rfl (s_X11_lose hst w.1) rfl (by decide) (by decide) rfl (fk w.1.1 0 rfl) (Nat.le_of_ble_eq_true rfl) (by decide) (fun v' g' q => ?_) (fun E' g' q => ?_)
  · obtain ⟨q1 | q1, q2⟩ := q
    · have w1 := LB_c w q2
      obtain ⟨v1, e1, i1, rfl⟩ := q1
      cases e1
      refine ex_i2l ok_L_lose (mi 5 rfl) ?_
      refine ex_last ok_L_lose (mi 6 rfl) w1.2.2.1.1 (by rw [w1.2.2.1.2]; exact pk_in 0 1 (by decide)) ?_
      refine ex_goto (tgt := 15) ok_L_lose (mi 7 rfl) rfl ?_
      refine ex_iconst ok_L_lose (mi 11 rfl) ?_
      refine ex_iret ok_L_lose (mi 12 rfl) rfl ?_
      exact ⟨_, rfl, ⟨_, rfl⟩, LB_L w1⟩
    · obtain ⟨e1, he, q1⟩ := q1
      cases q1
  · obtain ⟨q1 | q1, q2⟩ := q
    · obtain ⟨v1, e1, -⟩ := q1
      cases e1
    · obtain ⟨e1, he, q1⟩ := q1
      have w1 := LB_c w q2
      simp only [List.mem_cons, List.not_mem_nil, or_false] at he
      subst he
      refine ⟨100, [], (0, 9, 12, 13), [], by cases q1; rfl, by decide +kernel, fun q => ?_⟩
      refine ex_astore_n ok_L_lose (mi 8 rfl) ?_
      refine ex_iconst ok_L_lose (mi 9 rfl) ?_
      refine ex_iret ok_L_lose (mi 10 rfl) rfl ?_
      exact ⟨_, rfl, ⟨_, rfl⟩, w1⟩
theorem l_twice {G : GE} (hst : (ge_l G).stackTraces = false) {x o s L : Nat} {xs u d : Nat → Int32} {h : GT} {p0 : Int32} (w : LB h x o s L xs u d) : ex_MH G 3 4 24 my_L_twice [.ref x, .int p0, .ref o] h (fun r h' => ∃ z, r = .inl z ∧ LH x o s L xs u d z h') := by
  refine ex_MH_of ok_L_twice cw_L_twice hst (Nat.le_of_ble_eq_true rfl) ?_
  refine ex_aload_n ok_L_twice (mi 0 rfl) rfl ?_
  refine ex_iconst ok_L_twice (mi 1 rfl) ?_
  refine ex_aload_n ok_L_twice (mi 2 rfl) rfl ?_
  refine ex_iload_n ok_L_twice (mi 3 rfl) rfl ?_
  refine ex_callVHs (As := [_]) ok_L_twice (mi 4 rfl) rfl (s_X11_twice hst w.1) rfl (by decide) (by decide) rfl (fk w.1.1 0 rfl) (Nat.le_of_ble_eq_true rfl) (by decide) (fun v' g' q => ?_) (fun E' g' q => ?_)
  · obtain ⟨q1 | q1, q2⟩ := q
    · have w1 := LB_c w q2
      obtain ⟨v1, e1, i1, rfl⟩ := q1
      cases e1
      refine ex_i2l ok_L_twice (mi 5 rfl) ?_
      refine ex_last ok_L_twice (mi 6 rfl) w1.2.2.1.1 (by rw [w1.2.2.1.2]; exact pk_in 0 1 (by decide)) ?_
      refine ex_goto (tgt := 15) ok_L_twice (mi 7 rfl) rfl ?_
      refine ex_iconst ok_L_twice (mi 11 rfl) ?_
      refine ex_iret ok_L_twice (mi 12 rfl) rfl ?_
      exact ⟨_, rfl, ⟨_, rfl⟩, LB_L w1⟩
    · obtain ⟨e1, he, q1⟩ := q1
      cases q1
  · obtain ⟨q1 | q1, q2⟩ := q
    · obtain ⟨v1, e1, -⟩ := q1
      cases e1
    · obtain ⟨e1, he, q1⟩ := q1
      have w1 := LB_c w q2
      simp only [List.mem_cons, List.not_mem_nil, or_false] at he
      subst he
      refine ⟨100, [], (0, 9, 12, 13), [], by cases q1; rfl, by decide +kernel, fun q => ?_⟩
      refine ex_astore_n ok_L_twice (mi 8 rfl) ?_
      refine ex_iconst ok_L_twice (mi 9 rfl) ?_
      refine ex_iret ok_L_twice (mi 10 rfl) rfl ?_
      exact ⟨_, rfl, ⟨_, rfl⟩, w1⟩
theorem l_up0 {G : GE} (hst : (ge_l G).stackTraces = false) {x o s L : Nat} {xs u d : Nat → Int32} {h : GT} {p0 p1 p2 : Int32} (w : LB h x o s L xs u d) {u' : Nat → Int32} (c : ex_M G 3 4 24 my_X11_up [.ref x, .int p0, .int p1, .int p2] h (fun r h' => r = .inl (some (.int (nI 0))) ∧ INV x (u', h) h')) : ex_MH G 4 4 24 my_L_up [.ref x, .int p0, .int p1, .int p2, .ref o] h (fun r h' => ∃ z, r = .inl z ∧ (z = some (.int (nI 0)) ∧ ((0 : Nat) = 0 → gx_L h' o 0 = Int64.ofNat 0) ∧ LB h' x o s L xs u' d)) := by
  refine ex_MH_of ok_L_up cw_L_up hst (Nat.le_of_ble_eq_true rfl) ?_
  refine ex_aload ok_L_up (mi 0 rfl) rfl ?_
  refine ex_iconst ok_L_up (mi 1 rfl) ?_
  refine ex_aload_n ok_L_up (mi 2 rfl) rfl ?_
  refine ex_iload_n ok_L_up (mi 3 rfl) rfl ?_
  refine ex_iload_n ok_L_up (mi 4 rfl) rfl ?_
  refine ex_iload_n ok_L_up (mi 5 rfl) rfl ?_
  refine ex_callVHs (As := [_, _, _]) ok_L_up (mi 6 rfl) rfl (c) rfl (by decide) (by decide) rfl (fk w.1.1 0 rfl) (Nat.le_of_ble_eq_true rfl) (by decide) (fun v' g' q => ?_) (fun E' g' q => ?_)
  · obtain ⟨q1, q2⟩ := q
    have w1 := LB_c w q2
    cases q1
    refine ex_if_eq (tgt := 17) ok_L_up (mi 7 rfl) rfl (fun _ => ?_) (fun hn => absurd (by decide) hn)
    refine ex_lconst ok_L_up (mi 10 rfl) ?_
    refine ex_last ok_L_up (mi 11 rfl) w1.2.2.1.1 (by rw [w1.2.2.1.2]; exact pk_in 0 1 (by decide)) ?_
    refine ex_goto (tgt := 26) ok_L_up (mi 12 rfl) rfl ?_
    refine ex_iconst ok_L_up (mi 16 rfl) ?_
    refine ex_iret ok_L_up (mi 17 rfl) rfl ?_
    exact ⟨_, rfl, rfl, fun _ => if_pos ⟨rfl, by decide⟩, LB_L w1⟩
  · cases q.1
theorem l_up1 {G : GE} (hst : (ge_l G).stackTraces = false) {x o s L : Nat} {xs u d : Nat → Int32} {h : GT} {p0 p1 p2 : Int32} (w : LB h x o s L xs u d) {u' : Nat → Int32} (c : ex_M G 3 4 24 my_X11_up [.ref x, .int p0, .int p1, .int p2] h (fun r h' => r = .inl (some (.int (nI 1))) ∧ INV x (u', h) h')) : ex_MH G 4 4 24 my_L_up [.ref x, .int p0, .int p1, .int p2, .ref o] h (fun r h' => ∃ z, r = .inl z ∧ (z = some (.int (nI 0)) ∧ ((0 : Nat) = 0 → gx_L h' o 0 = Int64.ofNat 1) ∧ LB h' x o s L xs u' d)) := by
  refine ex_MH_of ok_L_up cw_L_up hst (Nat.le_of_ble_eq_true rfl) ?_
  refine ex_aload ok_L_up (mi 0 rfl) rfl ?_
  refine ex_iconst ok_L_up (mi 1 rfl) ?_
  refine ex_aload_n ok_L_up (mi 2 rfl) rfl ?_
  refine ex_iload_n ok_L_up (mi 3 rfl) rfl ?_
  refine ex_iload_n ok_L_up (mi 4 rfl) rfl ?_
  refine ex_iload_n ok_L_up (mi 5 rfl) rfl ?_
  refine ex_callVHs (As := [_, _, _]) ok_L_up (mi 6 rfl) rfl (c) rfl (by decide) (by decide) rfl (fk w.1.1 0 rfl) (Nat.le_of_ble_eq_true rfl) (by decide) (fun v' g' q => ?_) (fun E' g' q => ?_)
  · obtain ⟨q1, q2⟩ := q
    have w1 := LB_c w q2
    cases q1
    refine ex_if_eq (tgt := 17) ok_L_up (mi 7 rfl) rfl (fun hn => absurd hn (by decide)) (fun _ => ?_)
    refine ex_lconst ok_L_up (mi 8 rfl) ?_
    refine ex_goto (tgt := 18) ok_L_up (mi 9 rfl) rfl ?_
    refine ex_last ok_L_up (mi 11 rfl) w1.2.2.1.1 (by rw [w1.2.2.1.2]; exact pk_in 0 1 (by decide)) ?_
    refine ex_goto (tgt := 26) ok_L_up (mi 12 rfl) rfl ?_
    refine ex_iconst ok_L_up (mi 16 rfl) ?_
    refine ex_iret ok_L_up (mi 17 rfl) rfl ?_
    exact ⟨_, rfl, rfl, fun _ => if_pos ⟨rfl, by decide⟩, LB_L w1⟩
  · cases q.1
theorem l_upX {G : GE} (hst : (ge_l G).stackTraces = false) {x o s L : Nat} {xs u d : Nat → Int32} {h : GT} {p0 p1 p2 : Int32} (w : LB h x o s L xs u d) (c : ex_M G 3 4 24 my_X11_up [.ref x, .int p0, .int p1, .int p2] h (fun r h' => r = .inr (cx_E 100) ∧ INV x (u, h) h')) : ex_MH G 4 4 24 my_L_up [.ref x, .int p0, .int p1, .int p2, .ref o] h (fun r h' => ∃ z, r = .inl z ∧ (z = some (.int (nI 1)) ∧ ((1 : Nat) = 0 → gx_L h' o 0 = Int64.ofNat 0) ∧ LB h' x o s L xs u d)) := by
  refine ex_MH_of ok_L_up cw_L_up hst (Nat.le_of_ble_eq_true rfl) ?_
  refine ex_aload ok_L_up (mi 0 rfl) rfl ?_
  refine ex_iconst ok_L_up (mi 1 rfl) ?_
  refine ex_aload_n ok_L_up (mi 2 rfl) rfl ?_
  refine ex_iload_n ok_L_up (mi 3 rfl) rfl ?_
  refine ex_iload_n ok_L_up (mi 4 rfl) rfl ?_
  refine ex_iload_n ok_L_up (mi 5 rfl) rfl ?_
  refine ex_callVHs (As := [_, _, _]) ok_L_up (mi 6 rfl) rfl (c) rfl (by decide) (by decide) rfl (fk w.1.1 0 rfl) (Nat.le_of_ble_eq_true rfl) (by decide) (fun v' g' q => ?_) (fun E' g' q => ?_)
  · cases q.1
  · obtain ⟨q1, q2⟩ := q
    have w1 := LB_c w q2
    refine ⟨100, [], (0, 19, 22, 13), [], by cases q1; rfl, by decide +kernel, fun q => ?_⟩
    refine ex_astore ok_L_up (mi 13 rfl) ?_
    refine ex_iconst ok_L_up (mi 14 rfl) ?_
    refine ex_iret ok_L_up (mi 15 rfl) rfl ?_
    exact ⟨_, rfl, rfl, fun e => absurd e (by decide), w1⟩
theorem l_message {G : GE} (hst : (ge_l G).stackTraces = false) {x o s L : Nat} {xs u d : Nat → Int32} {h : GT} {p0 p1 : Int32} (w : LB h x o s L xs u d) : ex_MH G 6 4 24 my_L_message [.ref x, .int p0, .int p1, .ref o] h (fun r h' => ∃ z, r = .inl z ∧ LH x o s L xs u d z h') := by
  refine ex_MH_of ok_L_message cw_L_message hst (Nat.le_of_ble_eq_true rfl) ?_
  refine ex_aload_n ok_L_message (mi 0 rfl) rfl ?_
  refine ex_iconst ok_L_message (mi 1 rfl) ?_
  refine ex_aload_n ok_L_message (mi 2 rfl) rfl ?_
  refine ex_iload_n ok_L_message (mi 3 rfl) rfl ?_
  refine ex_iload_n ok_L_message (mi 4 rfl) rfl ?_
  refine ex_callVHs (As := [_, _]) ok_L_message (mi 5 rfl) rfl (s_X11_message hst w.1) rfl (by decide) (by decide) rfl (fk w.1.1 0 rfl) (Nat.le_of_ble_eq_true rfl) (by decide) (fun v' g' q => ?_) (fun E' g' q => ?_)
  · obtain ⟨q1 | q1, q2⟩ := q
    · have w1 := LB_c w q2
      obtain ⟨v1, e1, i1, rfl⟩ := q1
      cases e1
      refine ex_i2l ok_L_message (mi 6 rfl) ?_
      refine ex_last ok_L_message (mi 7 rfl) w1.2.2.1.1 (by rw [w1.2.2.1.2]; exact pk_in 0 1 (by decide)) ?_
      refine ex_goto (tgt := 17) ok_L_message (mi 8 rfl) rfl ?_
      refine ex_iconst ok_L_message (mi 12 rfl) ?_
      refine ex_iret ok_L_message (mi 13 rfl) rfl ?_
      exact ⟨_, rfl, ⟨_, rfl⟩, LB_L w1⟩
    · obtain ⟨e1, he, q1⟩ := q1
      cases q1
  · obtain ⟨q1 | q1, q2⟩ := q
    · obtain ⟨v1, e1, -⟩ := q1
      cases e1
    · obtain ⟨e1, he, q1⟩ := q1
      have w1 := LB_c w q2
      simp only [List.mem_cons, List.not_mem_nil, or_false] at he
      subst he
      refine ⟨100, [], (0, 10, 13, 13), [], by cases q1; rfl, by decide +kernel, fun q => ?_⟩
      refine ex_astore ok_L_message (mi 9 rfl) ?_
      refine ex_iconst ok_L_message (mi 10 rfl) ?_
      refine ex_iret ok_L_message (mi 11 rfl) rfl ?_
      exact ⟨_, rfl, ⟨_, rfl⟩, w1⟩
theorem l_leader {G : GE} (hst : (ge_l G).stackTraces = false) {x o s L : Nat} {xs u d : Nat → Int32} {h : GT} {p0 p1 : Int32} (w : LB h x o s L xs u d) : ex_MH G 5 4 24 my_L_leader [.ref x, .int p0, .int p1, .ref o] h (fun r h' => ∃ z, r = .inl z ∧ LH x o s L xs u d z h') := by
  refine ex_MH_of ok_L_leader cw_L_leader hst (Nat.le_of_ble_eq_true rfl) ?_
  refine ex_aload_n ok_L_leader (mi 0 rfl) rfl ?_
  refine ex_iconst ok_L_leader (mi 1 rfl) ?_
  refine ex_aload_n ok_L_leader (mi 2 rfl) rfl ?_
  refine ex_iload_n ok_L_leader (mi 3 rfl) rfl ?_
  refine ex_iload_n ok_L_leader (mi 4 rfl) rfl ?_
  refine ex_callVHs (As := [_, _]) ok_L_leader (mi 5 rfl) rfl (s_X11_leader hst w.1) rfl (by decide) (by decide) rfl (fk w.1.1 0 rfl) (Nat.le_of_ble_eq_true rfl) (by decide) (fun v' g' q => ?_) (fun E' g' q => ?_)
  · obtain ⟨q1 | q1, q2⟩ := q
    · have w1 := LB_c w q2
      obtain ⟨v1, e1, i1, rfl⟩ := q1
      cases e1
      refine ex_i2l ok_L_leader (mi 6 rfl) ?_
      refine ex_last ok_L_leader (mi 7 rfl) w1.2.2.1.1 (by rw [w1.2.2.1.2]; exact pk_in 0 1 (by decide)) ?_
      refine ex_goto (tgt := 17) ok_L_leader (mi 8 rfl) rfl ?_
      refine ex_iconst ok_L_leader (mi 12 rfl) ?_
      refine ex_iret ok_L_leader (mi 13 rfl) rfl ?_
      exact ⟨_, rfl, ⟨_, rfl⟩, LB_L w1⟩
    · obtain ⟨e1, he, q1⟩ := q1
      cases q1
  · obtain ⟨q1 | q1, q2⟩ := q
    · obtain ⟨v1, e1, -⟩ := q1
      cases e1
    · obtain ⟨e1, he, q1⟩ := q1
      have w1 := LB_c w q2
      simp only [List.mem_cons, List.not_mem_nil, or_false] at he
      subst he
      refine ⟨100, [], (0, 10, 13, 13), [], by cases q1; rfl, by decide +kernel, fun q => ?_⟩
      refine ex_astore ok_L_leader (mi 9 rfl) ?_
      refine ex_iconst ok_L_leader (mi 10 rfl) ?_
      refine ex_iret ok_L_leader (mi 11 rfl) rfl ?_
      exact ⟨_, rfl, ⟨_, rfl⟩, w1⟩
theorem l_slot {G : GE} (hst : (ge_l G).stackTraces = false) {x o s L : Nat} {xs u d : Nat → Int32} {h : GT} {p0 p1 p2 : Int32} (w : LB h x o s L xs u d) : ex_MH G 4 4 24 my_L_slot [.ref x, .int p0, .int p1, .int p2, .ref o] h (fun r h' => ∃ z, r = .inl z ∧ LH x o s L xs u d z h') := by
  refine ex_MH_of ok_L_slot cw_L_slot hst (Nat.le_of_ble_eq_true rfl) ?_
  refine ex_aload ok_L_slot (mi 0 rfl) rfl ?_
  refine ex_iconst ok_L_slot (mi 1 rfl) ?_
  refine ex_aload_n ok_L_slot (mi 2 rfl) rfl ?_
  refine ex_iload_n ok_L_slot (mi 3 rfl) rfl ?_
  refine ex_iload_n ok_L_slot (mi 4 rfl) rfl ?_
  refine ex_iload_n ok_L_slot (mi 5 rfl) rfl ?_
  refine ex_callVHs (As := [_, _, _]) ok_L_slot (mi 6 rfl) rfl (s_X11_slot hst w.1) rfl (by decide) (by decide) rfl (fk w.1.1 0 rfl) (Nat.le_of_ble_eq_true rfl) (by decide) (fun v' g' q => ?_) (fun E' g' q => ?_)
  · obtain ⟨q1 | q1, q2⟩ := q
    · have w1 := LB_c w q2
      obtain ⟨v1, e1, i1, rfl⟩ := q1
      cases e1
      refine ex_i2l ok_L_slot (mi 7 rfl) ?_
      refine ex_last ok_L_slot (mi 8 rfl) w1.2.2.1.1 (by rw [w1.2.2.1.2]; exact pk_in 0 1 (by decide)) ?_
      refine ex_goto (tgt := 19) ok_L_slot (mi 9 rfl) rfl ?_
      refine ex_iconst ok_L_slot (mi 13 rfl) ?_
      refine ex_iret ok_L_slot (mi 14 rfl) rfl ?_
      exact ⟨_, rfl, ⟨_, rfl⟩, LB_L w1⟩
    · obtain ⟨e1, he, q1⟩ := q1
      cases q1
  · obtain ⟨q1 | q1, q2⟩ := q
    · obtain ⟨v1, e1, -⟩ := q1
      cases e1
    · obtain ⟨e1, he, q1⟩ := q1
      have w1 := LB_c w q2
      simp only [List.mem_cons, List.not_mem_nil, or_false] at he
      subst he
      refine ⟨100, [], (0, 12, 15, 13), [], by cases q1; rfl, by decide +kernel, fun q => ?_⟩
      refine ex_astore ok_L_slot (mi 10 rfl) ?_
      refine ex_iconst ok_L_slot (mi 11 rfl) ?_
      refine ex_iret ok_L_slot (mi 12 rfl) rfl ?_
      exact ⟨_, rfl, ⟨_, rfl⟩, w1⟩
theorem l_keeper {G : GE} (hst : (ge_l G).stackTraces = false) {x o s L : Nat} {xs u d : Nat → Int32} {h : GT} {p0 p1 : Int32} (w : LB h x o s L xs u d) : ex_MH G 5 4 24 my_L_keeper [.ref x, .int p0, .int p1, .ref o] h (fun r h' => ∃ z, r = .inl z ∧ LH x o s L xs u d z h') := by
  refine ex_MH_of ok_L_keeper cw_L_keeper hst (Nat.le_of_ble_eq_true rfl) ?_
  refine ex_aload_n ok_L_keeper (mi 0 rfl) rfl ?_
  refine ex_iconst ok_L_keeper (mi 1 rfl) ?_
  refine ex_aload_n ok_L_keeper (mi 2 rfl) rfl ?_
  refine ex_iload_n ok_L_keeper (mi 3 rfl) rfl ?_
  refine ex_iload_n ok_L_keeper (mi 4 rfl) rfl ?_
  refine ex_callVHs (As := [_, _]) ok_L_keeper (mi 5 rfl) rfl (s_X11_keeper hst w.1) rfl (by decide) (by decide) rfl (fk w.1.1 0 rfl) (Nat.le_of_ble_eq_true rfl) (by decide) (fun v' g' q => ?_) (fun E' g' q => ?_)
  · obtain ⟨q1 | q1, q2⟩ := q
    · have w1 := LB_c w q2
      obtain ⟨v1, e1, i1, rfl⟩ := q1
      cases e1
      refine ex_i2l ok_L_keeper (mi 6 rfl) ?_
      refine ex_last ok_L_keeper (mi 7 rfl) w1.2.2.1.1 (by rw [w1.2.2.1.2]; exact pk_in 0 1 (by decide)) ?_
      refine ex_goto (tgt := 17) ok_L_keeper (mi 8 rfl) rfl ?_
      refine ex_iconst ok_L_keeper (mi 12 rfl) ?_
      refine ex_iret ok_L_keeper (mi 13 rfl) rfl ?_
      exact ⟨_, rfl, ⟨_, rfl⟩, LB_L w1⟩
    · obtain ⟨e1, he, q1⟩ := q1
      cases q1
  · obtain ⟨q1 | q1, q2⟩ := q
    · obtain ⟨v1, e1, -⟩ := q1
      cases e1
    · obtain ⟨e1, he, q1⟩ := q1
      have w1 := LB_c w q2
      simp only [List.mem_cons, List.not_mem_nil, or_false] at he
      subst he
      refine ⟨100, [], (0, 10, 13, 13), [], by cases q1; rfl, by decide +kernel, fun q => ?_⟩
      refine ex_astore ok_L_keeper (mi 9 rfl) ?_
      refine ex_iconst ok_L_keeper (mi 10 rfl) ?_
      refine ex_iret ok_L_keeper (mi 11 rfl) rfl ?_
      exact ⟨_, rfl, ⟨_, rfl⟩, w1⟩
theorem l_entry {G : GE} (hst : (ge_l G).stackTraces = false) {x o s L : Nat} {xs u d : Nat → Int32} {h : GT} {p0 p1 p2 : Int32} (w : LB h x o s L xs u d) : ex_MH G 4 4 24 my_L_entry [.ref x, .int p0, .int p1, .int p2, .ref o] h (fun r h' => ∃ z, r = .inl z ∧ LH x o s L xs u d z h') := by
  refine ex_MH_of ok_L_entry cw_L_entry hst (Nat.le_of_ble_eq_true rfl) ?_
  refine ex_aload ok_L_entry (mi 0 rfl) rfl ?_
  refine ex_iconst ok_L_entry (mi 1 rfl) ?_
  refine ex_aload_n ok_L_entry (mi 2 rfl) rfl ?_
  refine ex_iload_n ok_L_entry (mi 3 rfl) rfl ?_
  refine ex_iload_n ok_L_entry (mi 4 rfl) rfl ?_
  refine ex_iload_n ok_L_entry (mi 5 rfl) rfl ?_
  refine ex_callVHs (As := [_, _, _]) ok_L_entry (mi 6 rfl) rfl (s_X11_entry hst w.1) rfl (by decide) (by decide) rfl (fk w.1.1 0 rfl) (Nat.le_of_ble_eq_true rfl) (by decide) (fun v' g' q => ?_) (fun E' g' q => ?_)
  · obtain ⟨q1 | q1, q2⟩ := q
    · have w1 := LB_c w q2
      obtain ⟨v1, e1, i1, rfl⟩ := q1
      cases e1
      refine ex_i2l ok_L_entry (mi 7 rfl) ?_
      refine ex_last ok_L_entry (mi 8 rfl) w1.2.2.1.1 (by rw [w1.2.2.1.2]; exact pk_in 0 1 (by decide)) ?_
      refine ex_goto (tgt := 19) ok_L_entry (mi 9 rfl) rfl ?_
      refine ex_iconst ok_L_entry (mi 13 rfl) ?_
      refine ex_iret ok_L_entry (mi 14 rfl) rfl ?_
      exact ⟨_, rfl, ⟨_, rfl⟩, LB_L w1⟩
    · obtain ⟨e1, he, q1⟩ := q1
      cases q1
  · obtain ⟨q1 | q1, q2⟩ := q
    · obtain ⟨v1, e1, -⟩ := q1
      cases e1
    · obtain ⟨e1, he, q1⟩ := q1
      have w1 := LB_c w q2
      simp only [List.mem_cons, List.not_mem_nil, or_false] at he
      subst he
      refine ⟨100, [], (0, 12, 15, 13), [], by cases q1; rfl, by decide +kernel, fun q => ?_⟩
      refine ex_astore ok_L_entry (mi 10 rfl) ?_
      refine ex_iconst ok_L_entry (mi 11 rfl) ?_
      refine ex_iret ok_L_entry (mi 12 rfl) rfl ?_
      exact ⟨_, rfl, ⟨_, rfl⟩, w1⟩
theorem l_voter {G : GE} (hst : (ge_l G).stackTraces = false) {x o s L : Nat} {xs u d : Nat → Int32} {h : GT} {p0 p1 : Int32} (w : LB h x o s L xs u d) : ex_MH G 4 4 24 my_L_voter [.ref x, .int p0, .int p1, .ref o] h (fun r h' => ∃ z, r = .inl z ∧ LH x o s L xs u d z h') := by
  refine ex_MH_of ok_L_voter cw_L_voter hst (Nat.le_of_ble_eq_true rfl) ?_
  refine ex_aload_n ok_L_voter (mi 0 rfl) rfl ?_
  refine ex_iconst ok_L_voter (mi 1 rfl) ?_
  refine ex_aload_n ok_L_voter (mi 2 rfl) rfl ?_
  refine ex_iload_n ok_L_voter (mi 3 rfl) rfl ?_
  refine ex_iload_n ok_L_voter (mi 4 rfl) rfl ?_
  refine ex_callVHs (As := [_, _]) ok_L_voter (mi 5 rfl) rfl (s_X11_voter hst w.1) rfl (by decide) (by decide) rfl (fk w.1.1 0 rfl) (Nat.le_of_ble_eq_true rfl) (by decide) (fun v' g' q => ?_) (fun E' g' q => ?_)
  · obtain ⟨q1 | q1, q2⟩ := q
    · have w1 := LB_c w q2
      obtain ⟨v1, e1, i1, rfl⟩ := q1
      cases e1
      refine ex_i2l ok_L_voter (mi 6 rfl) ?_
      refine ex_last ok_L_voter (mi 7 rfl) w1.2.2.1.1 (by rw [w1.2.2.1.2]; exact pk_in 0 1 (by decide)) ?_
      refine ex_goto (tgt := 17) ok_L_voter (mi 8 rfl) rfl ?_
      refine ex_iconst ok_L_voter (mi 12 rfl) ?_
      refine ex_iret ok_L_voter (mi 13 rfl) rfl ?_
      exact ⟨_, rfl, ⟨_, rfl⟩, LB_L w1⟩
    · obtain ⟨e1, he, q1⟩ := q1
      cases q1
  · obtain ⟨q1 | q1, q2⟩ := q
    · obtain ⟨v1, e1, -⟩ := q1
      cases e1
    · obtain ⟨e1, he, q1⟩ := q1
      have w1 := LB_c w q2
      simp only [List.mem_cons, List.not_mem_nil, or_false] at he
      subst he
      refine ⟨100, [], (0, 10, 13, 13), [], by cases q1; rfl, by decide +kernel, fun q => ?_⟩
      refine ex_astore ok_L_voter (mi 9 rfl) ?_
      refine ex_iconst ok_L_voter (mi 10 rfl) ?_
      refine ex_iret ok_L_voter (mi 11 rfl) rfl ?_
      exact ⟨_, rfl, ⟨_, rfl⟩, w1⟩
theorem l_vote {G : GE} (hst : (ge_l G).stackTraces = false) {x o s L : Nat} {xs u d : Nat → Int32} {h : GT} {p0 p1 p2 : Int32} (w : LB h x o s L xs u d) : ex_MH G 3 4 24 my_L_vote [.ref x, .int p0, .int p1, .int p2, .ref o] h (fun r h' => ∃ z, r = .inl z ∧ LH x o s L xs u d z h') := by
  refine ex_MH_of ok_L_vote cw_L_vote hst (Nat.le_of_ble_eq_true rfl) ?_
  refine ex_aload ok_L_vote (mi 0 rfl) rfl ?_
  refine ex_iconst ok_L_vote (mi 1 rfl) ?_
  refine ex_aload_n ok_L_vote (mi 2 rfl) rfl ?_
  refine ex_iload_n ok_L_vote (mi 3 rfl) rfl ?_
  refine ex_iload_n ok_L_vote (mi 4 rfl) rfl ?_
  refine ex_iload_n ok_L_vote (mi 5 rfl) rfl ?_
  refine ex_callVHs (As := [_, _, _]) ok_L_vote (mi 6 rfl) rfl (s_X11_vote hst w.1) rfl (by decide) (by decide) rfl (fk w.1.1 0 rfl) (Nat.le_of_ble_eq_true rfl) (by decide) (fun v' g' q => ?_) (fun E' g' q => ?_)
  · obtain ⟨q1 | q1, q2⟩ := q
    · have w1 := LB_c w q2
      obtain ⟨v1, e1, i1, rfl⟩ := q1
      cases e1
      refine ex_i2l ok_L_vote (mi 7 rfl) ?_
      refine ex_last ok_L_vote (mi 8 rfl) w1.2.2.1.1 (by rw [w1.2.2.1.2]; exact pk_in 0 1 (by decide)) ?_
      refine ex_goto (tgt := 19) ok_L_vote (mi 9 rfl) rfl ?_
      refine ex_iconst ok_L_vote (mi 13 rfl) ?_
      refine ex_iret ok_L_vote (mi 14 rfl) rfl ?_
      exact ⟨_, rfl, ⟨_, rfl⟩, LB_L w1⟩
    · obtain ⟨e1, he, q1⟩ := q1
      cases q1
  · obtain ⟨q1 | q1, q2⟩ := q
    · obtain ⟨v1, e1, -⟩ := q1
      cases e1
    · obtain ⟨e1, he, q1⟩ := q1
      have w1 := LB_c w q2
      simp only [List.mem_cons, List.not_mem_nil, or_false] at he
      subst he
      refine ⟨100, [], (0, 12, 15, 13), [], by cases q1; rfl, by decide +kernel, fun q => ?_⟩
      refine ex_astore ok_L_vote (mi 10 rfl) ?_
      refine ex_iconst ok_L_vote (mi 11 rfl) ?_
      refine ex_iret ok_L_vote (mi 12 rfl) rfl ?_
      exact ⟨_, rfl, ⟨_, rfl⟩, w1⟩
theorem l_copy {G : GE} (hst : (ge_l G).stackTraces = false) {x o s L : Nat} {xs u d : Nat → Int32} {h : GT} {p0 p1 : Int32} (w : LB h x o s L xs u d) : ex_MH G 3 4 24 my_L_copy [.ref x, .int p0, .int p1, .ref o] h (fun r h' => ∃ z, r = .inl z ∧ LH x o s L xs u d z h') := by
  refine ex_MH_of ok_L_copy cw_L_copy hst (Nat.le_of_ble_eq_true rfl) ?_
  refine ex_aload_n ok_L_copy (mi 0 rfl) rfl ?_
  refine ex_iconst ok_L_copy (mi 1 rfl) ?_
  refine ex_aload_n ok_L_copy (mi 2 rfl) rfl ?_
  refine ex_iload_n ok_L_copy (mi 3 rfl) rfl ?_
  refine ex_iload_n ok_L_copy (mi 4 rfl) rfl ?_
  refine ex_callVHs (As := [_, _]) ok_L_copy (mi 5 rfl) rfl (s_X11_copy hst w.1) rfl (by decide) (by decide) rfl (fk w.1.1 0 rfl) (Nat.le_of_ble_eq_true rfl) (by decide) (fun v' g' q => ?_) (fun E' g' q => ?_)
  · obtain ⟨q1 | q1, q2⟩ := q
    · have w1 := LB_c w q2
      obtain ⟨v1, e1, i1, rfl⟩ := q1
      cases e1
      refine ex_i2l ok_L_copy (mi 6 rfl) ?_
      refine ex_last ok_L_copy (mi 7 rfl) w1.2.2.1.1 (by rw [w1.2.2.1.2]; exact pk_in 0 1 (by decide)) ?_
      refine ex_goto (tgt := 17) ok_L_copy (mi 8 rfl) rfl ?_
      refine ex_iconst ok_L_copy (mi 12 rfl) ?_
      refine ex_iret ok_L_copy (mi 13 rfl) rfl ?_
      exact ⟨_, rfl, ⟨_, rfl⟩, LB_L w1⟩
    · obtain ⟨e1, he, q1⟩ := q1
      cases q1
  · obtain ⟨q1 | q1, q2⟩ := q
    · obtain ⟨v1, e1, -⟩ := q1
      cases e1
    · obtain ⟨e1, he, q1⟩ := q1
      have w1 := LB_c w q2
      simp only [List.mem_cons, List.not_mem_nil, or_false] at he
      subst he
      refine ⟨100, [], (0, 10, 13, 13), [], by cases q1; rfl, by decide +kernel, fun q => ?_⟩
      refine ex_astore ok_L_copy (mi 9 rfl) ?_
      refine ex_iconst ok_L_copy (mi 10 rfl) ?_
      refine ex_iret ok_L_copy (mi 11 rfl) rfl ?_
      exact ⟨_, rfl, ⟨_, rfl⟩, w1⟩
theorem l_agreed {G : GE} (hst : (ge_l G).stackTraces = false) {x o s L : Nat} {xs u d : Nat → Int32} {h : GT} {p0 : Int32} (w : LB h x o s L xs u d) : ex_MH G 3 4 24 my_L_agreed [.ref x, .int p0, .ref o] h (fun r h' => ∃ z, r = .inl z ∧ LH x o s L xs u d z h') := by
  refine ex_MH_of ok_L_agreed cw_L_agreed hst (Nat.le_of_ble_eq_true rfl) ?_
  refine ex_aload_n ok_L_agreed (mi 0 rfl) rfl ?_
  refine ex_iconst ok_L_agreed (mi 1 rfl) ?_
  refine ex_aload_n ok_L_agreed (mi 2 rfl) rfl ?_
  refine ex_iload_n ok_L_agreed (mi 3 rfl) rfl ?_
  refine ex_callVHs (As := [_]) ok_L_agreed (mi 4 rfl) rfl (s_X11_agreed hst w.1) rfl (by decide) (by decide) rfl (fk w.1.1 0 rfl) (Nat.le_of_ble_eq_true rfl) (by decide) (fun v' g' q => ?_) (fun E' g' q => ?_)
  · obtain ⟨q1 | q1, q2⟩ := q
    · have w1 := LB_c w q2
      obtain ⟨v1, e1, i1, rfl⟩ := q1
      cases e1
      refine ex_i2l ok_L_agreed (mi 5 rfl) ?_
      refine ex_last ok_L_agreed (mi 6 rfl) w1.2.2.1.1 (by rw [w1.2.2.1.2]; exact pk_in 0 1 (by decide)) ?_
      refine ex_goto (tgt := 15) ok_L_agreed (mi 7 rfl) rfl ?_
      refine ex_iconst ok_L_agreed (mi 11 rfl) ?_
      refine ex_iret ok_L_agreed (mi 12 rfl) rfl ?_
      exact ⟨_, rfl, ⟨_, rfl⟩, LB_L w1⟩
    · obtain ⟨e1, he, q1⟩ := q1
      cases q1
  · obtain ⟨q1 | q1, q2⟩ := q
    · obtain ⟨v1, e1, -⟩ := q1
      cases e1
    · obtain ⟨e1, he, q1⟩ := q1
      have w1 := LB_c w q2
      simp only [List.mem_cons, List.not_mem_nil, or_false] at he
      subst he
      refine ⟨100, [], (0, 9, 12, 13), [], by cases q1; rfl, by decide +kernel, fun q => ?_⟩
      refine ex_astore_n ok_L_agreed (mi 8 rfl) ?_
      refine ex_iconst ok_L_agreed (mi 9 rfl) ?_
      refine ex_iret ok_L_agreed (mi 10 rfl) rfl ?_
      exact ⟨_, rfl, ⟨_, rfl⟩, w1⟩
theorem l_count {G : GE} (hst : (ge_l G).stackTraces = false) {x o s L : Nat} {xs u d : Nat → Int32} {h : GT} {p0 : Int32} (w : LB h x o s L xs u d) : ex_MH G 3 4 24 my_L_count [.ref x, .int p0, .ref o] h (fun r h' => ∃ z, r = .inl z ∧ LH x o s L xs u d z h') := by
  refine ex_MH_of ok_L_count cw_L_count hst (Nat.le_of_ble_eq_true rfl) ?_
  refine ex_aload_n ok_L_count (mi 0 rfl) rfl ?_
  refine ex_iconst ok_L_count (mi 1 rfl) ?_
  refine ex_aload_n ok_L_count (mi 2 rfl) rfl ?_
  refine ex_iload_n ok_L_count (mi 3 rfl) rfl ?_
  refine ex_callVHs (As := [_]) ok_L_count (mi 4 rfl) rfl (s_X11_count hst w.1) rfl (by decide) (by decide) rfl (fk w.1.1 0 rfl) (Nat.le_of_ble_eq_true rfl) (by decide) (fun v' g' q => ?_) (fun E' g' q => ?_)
  · obtain ⟨q1 | q1, q2⟩ := q
    · have w1 := LB_c w q2
      obtain ⟨v1, e1, i1, rfl⟩ := q1
      cases e1
      refine ex_i2l ok_L_count (mi 5 rfl) ?_
      refine ex_last ok_L_count (mi 6 rfl) w1.2.2.1.1 (by rw [w1.2.2.1.2]; exact pk_in 0 1 (by decide)) ?_
      refine ex_goto (tgt := 15) ok_L_count (mi 7 rfl) rfl ?_
      refine ex_iconst ok_L_count (mi 11 rfl) ?_
      refine ex_iret ok_L_count (mi 12 rfl) rfl ?_
      exact ⟨_, rfl, ⟨_, rfl⟩, LB_L w1⟩
    · obtain ⟨e1, he, q1⟩ := q1
      cases q1
  · obtain ⟨q1 | q1, q2⟩ := q
    · obtain ⟨v1, e1, -⟩ := q1
      cases e1
    · obtain ⟨e1, he, q1⟩ := q1
      have w1 := LB_c w q2
      simp only [List.mem_cons, List.not_mem_nil, or_false] at he
      subst he
      refine ⟨100, [], (0, 9, 12, 13), [], by cases q1; rfl, by decide +kernel, fun q => ?_⟩
      refine ex_astore_n ok_L_count (mi 8 rfl) ?_
      refine ex_iconst ok_L_count (mi 9 rfl) ?_
      refine ex_iret ok_L_count (mi 10 rfl) rfl ?_
      exact ⟨_, rfl, ⟨_, rfl⟩, w1⟩
